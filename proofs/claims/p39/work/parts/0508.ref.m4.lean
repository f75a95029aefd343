section
theorem ggX11_fetch_X11_isParty : GoodIn wsX11_fetch wsX11_isParty := gi_sub (fun w h => List.mem_cons_of_mem _ (List.mem_append_left _ (List.mem_append_right _ (List.mem_append_left _ h)))) gd_wsX11_isParty
set_option maxRecDepth 20000 in
theorem gX11_fetch_X11_isParty : GoodIn wsX11_fetch (wsV RX11 358 RX11 yX11_isParty wsX11_isParty) := goodIn_app (goodIn_r _ [3, 4, 5, 6] (by decide +kernel) (by decide +kernel)) ggX11_fetch_X11_isParty
theorem ggX11_fetch_X11_copies : GoodIn wsX11_fetch wsX11_copies := gi_sub (fun w h => List.mem_cons_of_mem _ (List.mem_append_left _ (List.mem_append_right _ (List.mem_append_right _ (List.mem_append_left _ h))))) gd_wsX11_copies
set_option maxRecDepth 20000 in
theorem gX11_fetch_X11_copies : GoodIn wsX11_fetch (wsV RX11 352 RX11 yX11_copies wsX11_copies) := goodIn_app (goodIn_r _ [7, 8, 9, 6] (by decide +kernel) (by decide +kernel)) ggX11_fetch_X11_copies
theorem ggX11_fetch_X11_records : GoodIn wsX11_fetch wsX11_records := gi_sub (fun w h => List.mem_cons_of_mem _ (List.mem_append_left _ (List.mem_append_right _ (List.mem_append_right _ (List.mem_append_right _ h))))) gd_wsX11_records
set_option maxRecDepth 20000 in
theorem gX11_fetch_X11_records : GoodIn wsX11_fetch (wsV RX11 376 RX11 yX11_records wsX11_records) := goodIn_app (goodIn_r _ [10, 11, 12, 6] (by decide +kernel) (by decide +kernel)) ggX11_fetch_X11_records
theorem dX11_fetch_0 : decode cX11_fetch 0 = .ok (.aload_n 0, 1) := dc1_42 (by decide +kernel)
theorem dX11_fetch_1 : decode cX11_fetch 1 = .ok (.iload_n 1, 1) := dc1_27 (by decide +kernel)
theorem dX11_fetch_2 : decode cX11_fetch 2 = .ok (.invokevirtual 358, 3) := dcw_182 (by decide +kernel)
theorem dX11_fetch_5 : decode cX11_fetch 5 = .ok (.ifCond .eq 15, 3) := dcs_153 (n := 15) (by decide +kernel)
theorem dX11_fetch_8 : decode cX11_fetch 8 = .ok (.aload_n 0, 1) := dc1_42 (by decide +kernel)
theorem dX11_fetch_9 : decode cX11_fetch 9 = .ok (.getfield 98, 3) := dcw_180 (by decide +kernel)
theorem dX11_fetch_12 : decode cX11_fetch 12 = .ok (.bipush 15, 2) := dcb_16 (n := 15) (by decide +kernel)
theorem dX11_fetch_14 : decode cX11_fetch 14 = .ok (.iload_n 1, 1) := dc1_27 (by decide +kernel)
theorem dX11_fetch_15 : decode cX11_fetch 15 = .ok (.iadd, 1) := dc1_96 (by decide +kernel)
theorem dX11_fetch_16 : decode cX11_fetch 16 = .ok (.iaload, 1) := dc1_46 (by decide +kernel)
theorem dX11_fetch_17 : decode cX11_fetch 17 = .ok (.ifCond .ne 5, 3) := dcs_154 (n := 5) (by decide +kernel)
theorem dX11_fetch_20 : decode cX11_fetch 20 = .ok (.iconst 0, 1) := dc1_3 (by decide +kernel)
theorem dX11_fetch_21 : decode cX11_fetch 21 = .ok (.ireturn, 1) := dc1_172 (by decide +kernel)
theorem dX11_fetch_22 : decode cX11_fetch 22 = .ok (.aload_n 0, 1) := dc1_42 (by decide +kernel)
theorem dX11_fetch_23 : decode cX11_fetch 23 = .ok (.invokevirtual 352, 3) := dcw_182 (by decide +kernel)
theorem dX11_fetch_26 : decode cX11_fetch 26 = .ok (.aload_n 0, 1) := dc1_42 (by decide +kernel)
theorem dX11_fetch_27 : decode cX11_fetch 27 = .ok (.getfield 101, 3) := dcw_180 (by decide +kernel)
theorem dX11_fetch_30 : decode cX11_fetch 30 = .ok (.bipush 15, 2) := dcb_16 (n := 15) (by decide +kernel)
theorem dX11_fetch_32 : decode cX11_fetch 32 = .ok (.iload_n 1, 1) := dc1_27 (by decide +kernel)
theorem dX11_fetch_33 : decode cX11_fetch 33 = .ok (.iadd, 1) := dc1_96 (by decide +kernel)
theorem dX11_fetch_34 : decode cX11_fetch 34 = .ok (.iconst 0, 1) := dc1_3 (by decide +kernel)
theorem dX11_fetch_35 : decode cX11_fetch 35 = .ok (.iastore, 1) := dc1_79 (by decide +kernel)
theorem dX11_fetch_36 : decode cX11_fetch 36 = .ok (.aload_n 0, 1) := dc1_42 (by decide +kernel)
theorem dX11_fetch_37 : decode cX11_fetch 37 = .ok (.invokevirtual 376, 3) := dcw_182 (by decide +kernel)
theorem dX11_fetch_40 : decode cX11_fetch 40 = .ok (.iconst 1, 1) := dc1_4 (by decide +kernel)
theorem dX11_fetch_41 : decode cX11_fetch 41 = .ok (.ireturn, 1) := dc1_172 (by decide +kernel)
theorem ggX11_isLong_X11_in : GoodIn wsX11_isLong wsX11_in := gi_sub (fun w h => List.mem_cons_of_mem _ (List.mem_append_right _ h)) gd_wsX11_in
set_option maxRecDepth 20000 in
theorem gX11_isLong_X11_in : GoodIn wsX11_isLong (va_wsS RX11 281 yX11_in wsX11_in) := goodIn_app (goodIn_of _ (by decide +kernel)) ggX11_isLong_X11_in
theorem dX11_isLong_0 : decode cX11_isLong 0 = .ok (.iload_n 0, 1) := dc1_26 (by decide +kernel)
theorem dX11_isLong_1 : decode cX11_isLong 1 = .ok (.iconst 0, 1) := dc1_3 (by decide +kernel)
theorem dX11_isLong_2 : decode cX11_isLong 2 = .ok (.bipush 40, 2) := dcb_16 (n := 40) (by decide +kernel)
theorem dX11_isLong_4 : decode cX11_isLong 4 = .ok (.invokestatic 281, 3) := dcw_184 (by decide +kernel)
theorem dX11_isLong_7 : decode cX11_isLong 7 = .ok (.ireturn, 1) := dc1_172 (by decide +kernel)
theorem ggX11_years_X11_isLong : GoodIn wsX11_years wsX11_isLong := gi_sub (fun w h => List.mem_cons_of_mem _ (List.mem_append_left _ (List.mem_append_right _ (List.mem_append_left _ h)))) gd_wsX11_isLong
set_option maxRecDepth 20000 in
theorem gX11_years_X11_isLong : GoodIn wsX11_years (va_wsS RX11 379 yX11_isLong wsX11_isLong) := goodIn_app (goodIn_of _ (by decide +kernel)) ggX11_years_X11_isLong
theorem ggX11_years_X11_copies : GoodIn wsX11_years wsX11_copies := gi_sub (fun w h => List.mem_cons_of_mem _ (List.mem_append_left _ (List.mem_append_right _ (List.mem_append_right _ (List.mem_append_left _ h))))) gd_wsX11_copies
set_option maxRecDepth 20000 in
theorem gX11_years_X11_copies : GoodIn wsX11_years (wsV RX11 352 RX11 yX11_copies wsX11_copies) := goodIn_app (goodIn_r _ [5, 6, 7, 4] (by decide +kernel) (by decide +kernel)) ggX11_years_X11_copies
theorem ggX11_years_X11_yearsGo : GoodIn wsX11_years wsX11_yearsGo := gi_sub (fun w h => List.mem_cons_of_mem _ (List.mem_append_left _ (List.mem_append_right _ (List.mem_append_right _ (List.mem_append_right _ (List.mem_append_left _ h)))))) gd_wsX11_yearsGo
set_option maxRecDepth 20000 in
theorem gX11_years_X11_yearsGo : GoodIn wsX11_years (wsV RX11 382 RX11 yX11_yearsGo wsX11_yearsGo) := goodIn_app (goodIn_r _ [8, 9, 10, 4] (by decide +kernel) (by decide +kernel)) ggX11_years_X11_yearsGo
theorem ggX11_years_X11_records : GoodIn wsX11_years wsX11_records := gi_sub (fun w h => List.mem_cons_of_mem _ (List.mem_append_left _ (List.mem_append_right _ (List.mem_append_right _ (List.mem_append_right _ (List.mem_append_right _ h)))))) gd_wsX11_records
set_option maxRecDepth 20000 in
theorem gX11_years_X11_records : GoodIn wsX11_years (wsV RX11 376 RX11 yX11_records wsX11_records) := goodIn_app (goodIn_r _ [11, 12, 13, 4] (by decide +kernel) (by decide +kernel)) ggX11_years_X11_records
theorem dX11_years_0 : decode cX11_years 0 = .ok (.iload_n 1, 1) := dc1_27 (by decide +kernel)
theorem dX11_years_1 : decode cX11_years 1 = .ok (.invokestatic 379, 3) := dcw_184 (by decide +kernel)
theorem dX11_years_4 : decode cX11_years 4 = .ok (.ifCond .ne 5, 3) := dcs_154 (n := 5) (by decide +kernel)
theorem dX11_years_7 : decode cX11_years 7 = .ok (.iconst (-1), 1) := dc1_2 (by decide +kernel)
theorem dX11_years_8 : decode cX11_years 8 = .ok (.ireturn, 1) := dc1_172 (by decide +kernel)
theorem dX11_years_9 : decode cX11_years 9 = .ok (.iload_n 1, 1) := dc1_27 (by decide +kernel)
theorem dX11_years_10 : decode cX11_years 10 = .ok (.ifCond .ne 11, 3) := dcs_154 (n := 11) (by decide +kernel)
theorem dX11_years_13 : decode cX11_years 13 = .ok (.aload_n 0, 1) := dc1_42 (by decide +kernel)
theorem dX11_years_14 : decode cX11_years 14 = .ok (.getfield 98, 3) := dcw_180 (by decide +kernel)
theorem dX11_years_17 : decode cX11_years 17 = .ok (.bipush 27, 2) := dcb_16 (n := 27) (by decide +kernel)
theorem dX11_years_19 : decode cX11_years 19 = .ok (.iaload, 1) := dc1_46 (by decide +kernel)
theorem dX11_years_20 : decode cX11_years 20 = .ok (.ireturn, 1) := dc1_172 (by decide +kernel)
theorem dX11_years_21 : decode cX11_years 21 = .ok (.aload_n 0, 1) := dc1_42 (by decide +kernel)
theorem dX11_years_22 : decode cX11_years 22 = .ok (.invokevirtual 352, 3) := dcw_182 (by decide +kernel)
theorem dX11_years_25 : decode cX11_years 25 = .ok (.aload_n 0, 1) := dc1_42 (by decide +kernel)
theorem dX11_years_26 : decode cX11_years 26 = .ok (.iload_n 1, 1) := dc1_27 (by decide +kernel)
theorem dX11_years_27 : decode cX11_years 27 = .ok (.invokevirtual 382, 3) := dcw_182 (by decide +kernel)
theorem dX11_years_30 : decode cX11_years 30 = .ok (.aload_n 0, 1) := dc1_42 (by decide +kernel)
theorem dX11_years_31 : decode cX11_years 31 = .ok (.invokevirtual 376, 3) := dcw_182 (by decide +kernel)
theorem dX11_years_34 : decode cX11_years 34 = .ok (.aload_n 0, 1) := dc1_42 (by decide +kernel)
theorem dX11_years_35 : decode cX11_years 35 = .ok (.getfield 98, 3) := dcw_180 (by decide +kernel)
theorem dX11_years_38 : decode cX11_years 38 = .ok (.bipush 27, 2) := dcb_16 (n := 27) (by decide +kernel)
theorem dX11_years_40 : decode cX11_years 40 = .ok (.iaload, 1) := dc1_46 (by decide +kernel)
theorem dX11_years_41 : decode cX11_years 41 = .ok (.ireturn, 1) := dc1_172 (by decide +kernel)
theorem dX11_undo_0 : decode cX11_undo 0 = .ok (.aload_n 0, 1) := dc1_42 (by decide +kernel)
theorem dX11_undo_1 : decode cX11_undo 1 = .ok (.getfield 230, 3) := dcw_180 (by decide +kernel)
theorem dX11_undo_4 : decode cX11_undo 4 = .ok (.ifCond .ne 5, 3) := dcs_154 (n := 5) (by decide +kernel)
theorem dX11_undo_7 : decode cX11_undo 7 = .ok (.iconst 0, 1) := dc1_3 (by decide +kernel)
theorem dX11_undo_8 : decode cX11_undo 8 = .ok (.ireturn, 1) := dc1_172 (by decide +kernel)
theorem dX11_undo_9 : decode cX11_undo 9 = .ok (.aload_n 0, 1) := dc1_42 (by decide +kernel)
theorem dX11_undo_10 : decode cX11_undo 10 = .ok (.dup, 1) := dc1_89 (by decide +kernel)
theorem dX11_undo_11 : decode cX11_undo 11 = .ok (.getfield 230, 3) := dcw_180 (by decide +kernel)
theorem dX11_undo_14 : decode cX11_undo 14 = .ok (.iconst 1, 1) := dc1_4 (by decide +kernel)
theorem dX11_undo_15 : decode cX11_undo 15 = .ok (.isub, 1) := dc1_100 (by decide +kernel)
theorem dX11_undo_16 : decode cX11_undo 16 = .ok (.putfield 230, 3) := dcw_181 (by decide +kernel)
theorem dX11_undo_19 : decode cX11_undo 19 = .ok (.iconst 0, 1) := dc1_3 (by decide +kernel)
theorem dX11_undo_20 : decode cX11_undo 20 = .ok (.istore_n 1, 1) := dc1_60 (by decide +kernel)
theorem dX11_undo_21 : decode cX11_undo 21 = .ok (.iload_n 1, 1) := dc1_27 (by decide +kernel)
theorem dX11_undo_22 : decode cX11_undo 22 = .ok (.bipush 29, 2) := dcb_16 (n := 29) (by decide +kernel)
theorem dX11_undo_24 : decode cX11_undo 24 = .ok (.if_icmp .ge 29, 3) := dcs_162 (n := 29) (by decide +kernel)
theorem dX11_undo_27 : decode cX11_undo 27 = .ok (.aload_n 0, 1) := dc1_42 (by decide +kernel)
theorem dX11_undo_28 : decode cX11_undo 28 = .ok (.getfield 98, 3) := dcw_180 (by decide +kernel)
theorem dX11_undo_31 : decode cX11_undo 31 = .ok (.iload_n 1, 1) := dc1_27 (by decide +kernel)
theorem dX11_undo_32 : decode cX11_undo 32 = .ok (.aload_n 0, 1) := dc1_42 (by decide +kernel)
theorem dX11_undo_33 : decode cX11_undo 33 = .ok (.getfield 110, 3) := dcw_180 (by decide +kernel)
theorem dX11_undo_36 : decode cX11_undo 36 = .ok (.bipush 29, 2) := dcb_16 (n := 29) (by decide +kernel)
theorem dX11_undo_38 : decode cX11_undo 38 = .ok (.aload_n 0, 1) := dc1_42 (by decide +kernel)
theorem dX11_undo_39 : decode cX11_undo 39 = .ok (.getfield 230, 3) := dcw_180 (by decide +kernel)
theorem dX11_undo_42 : decode cX11_undo 42 = .ok (.imul, 1) := dc1_104 (by decide +kernel)
theorem dX11_undo_43 : decode cX11_undo 43 = .ok (.iload_n 1, 1) := dc1_27 (by decide +kernel)
theorem dX11_undo_44 : decode cX11_undo 44 = .ok (.iadd, 1) := dc1_96 (by decide +kernel)
theorem dX11_undo_45 : decode cX11_undo 45 = .ok (.iaload, 1) := dc1_46 (by decide +kernel)
theorem dX11_undo_46 : decode cX11_undo 46 = .ok (.iastore, 1) := dc1_79 (by decide +kernel)
theorem dX11_undo_47 : decode cX11_undo 47 = .ok (.iinc 1 1, 3) := dc_iinc (m := 1) (by decide +kernel)
theorem dX11_undo_50 : decode cX11_undo 50 = .ok (.goto (-29), 3) := dcs_167 (n := 65507) (by decide +kernel)
theorem dX11_undo_53 : decode cX11_undo 53 = .ok (.iconst 1, 1) := dc1_4 (by decide +kernel)
theorem dX11_undo_54 : decode cX11_undo 54 = .ok (.ireturn, 1) := dc1_172 (by decide +kernel)
theorem ggX11_casesNow_X11_mayAt : GoodIn wsX11_casesNow wsX11_mayAt := gi_sub (fun w h => List.mem_cons_of_mem _ (List.mem_append_left _ (List.mem_append_right _ (List.mem_append_left _ h)))) gd_wsX11_mayAt
set_option maxRecDepth 20000 in
theorem gX11_casesNow_X11_mayAt : GoodIn wsX11_casesNow (wsV RX11 309 RX11 yX11_mayAt wsX11_mayAt) := goodIn_app (goodIn_r _ [3, 4, 5, 6] (by decide +kernel) (by decide +kernel)) ggX11_casesNow_X11_mayAt
theorem ggX11_casesNow_X11_bits : GoodIn wsX11_casesNow wsX11_bits := gi_sub (fun w h => List.mem_cons_of_mem _ (List.mem_append_left _ (List.mem_append_right _ (List.mem_append_right _ h)))) gd_wsX11_bits
set_option maxRecDepth 20000 in
theorem gX11_casesNow_X11_bits : GoodIn wsX11_casesNow (va_wsS RX11 312 yX11_bits wsX11_bits) := goodIn_app (goodIn_of _ (by decide +kernel)) ggX11_casesNow_X11_bits
theorem dX11_casesNow_0 : decode cX11_casesNow 0 = .ok (.iconst 1, 1) := dc1_4 (by decide +kernel)
theorem dX11_casesNow_1 : decode cX11_casesNow 1 = .ok (.istore_n 1, 1) := dc1_60 (by decide +kernel)
theorem dX11_casesNow_2 : decode cX11_casesNow 2 = .ok (.iconst 0, 1) := dc1_3 (by decide +kernel)
theorem dX11_casesNow_3 : decode cX11_casesNow 3 = .ok (.istore_n 2, 1) := dc1_61 (by decide +kernel)
theorem dX11_casesNow_4 : decode cX11_casesNow 4 = .ok (.iload_n 2, 1) := dc1_28 (by decide +kernel)
theorem dX11_casesNow_5 : decode cX11_casesNow 5 = .ok (.aload_n 0, 1) := dc1_42 (by decide +kernel)
theorem dX11_casesNow_6 : decode cX11_casesNow 6 = .ok (.getfield 40, 3) := dcw_180 (by decide +kernel)
theorem dX11_casesNow_9 : decode cX11_casesNow 9 = .ok (.aload_n 0, 1) := dc1_42 (by decide +kernel)
theorem dX11_casesNow_10 : decode cX11_casesNow 10 = .ok (.getfield 215, 3) := dcw_180 (by decide +kernel)
theorem dX11_casesNow_13 : decode cX11_casesNow 13 = .ok (.iaload, 1) := dc1_46 (by decide +kernel)
theorem dX11_casesNow_14 : decode cX11_casesNow 14 = .ok (.if_icmp .ge 20, 3) := dcs_162 (n := 20) (by decide +kernel)
theorem dX11_casesNow_17 : decode cX11_casesNow 17 = .ok (.iload_n 1, 1) := dc1_27 (by decide +kernel)
theorem dX11_casesNow_18 : decode cX11_casesNow 18 = .ok (.aload_n 0, 1) := dc1_42 (by decide +kernel)
theorem dX11_casesNow_19 : decode cX11_casesNow 19 = .ok (.iload_n 2, 1) := dc1_28 (by decide +kernel)
theorem dX11_casesNow_20 : decode cX11_casesNow 20 = .ok (.invokevirtual 309, 3) := dcw_182 (by decide +kernel)
theorem dX11_casesNow_23 : decode cX11_casesNow 23 = .ok (.invokestatic 312, 3) := dcw_184 (by decide +kernel)
theorem dX11_casesNow_26 : decode cX11_casesNow 26 = .ok (.imul, 1) := dc1_104 (by decide +kernel)
theorem dX11_casesNow_27 : decode cX11_casesNow 27 = .ok (.istore_n 1, 1) := dc1_60 (by decide +kernel)
theorem dX11_casesNow_28 : decode cX11_casesNow 28 = .ok (.iinc 2 1, 3) := dc_iinc (m := 1) (by decide +kernel)
theorem dX11_casesNow_31 : decode cX11_casesNow 31 = .ok (.goto (-27), 3) := dcs_167 (n := 65509) (by decide +kernel)
theorem dX11_casesNow_34 : decode cX11_casesNow 34 = .ok (.iload_n 1, 1) := dc1_27 (by decide +kernel)
theorem dX11_casesNow_35 : decode cX11_casesNow 35 = .ok (.ireturn, 1) := dc1_172 (by decide +kernel)
theorem ggX11_cases_X11_copies : GoodIn wsX11_cases wsX11_copies := gi_sub (fun w h => List.mem_cons_of_mem _ (List.mem_append_left _ (List.mem_append_right _ (List.mem_append_left _ h)))) gd_wsX11_copies
set_option maxRecDepth 20000 in
theorem gX11_cases_X11_copies : GoodIn wsX11_cases (wsV RX11 352 RX11 yX11_copies wsX11_copies) := goodIn_app (goodIn_r _ [1, 2, 3, 4] (by decide +kernel) (by decide +kernel)) ggX11_cases_X11_copies
theorem ggX11_cases_X11_casesNow : GoodIn wsX11_cases wsX11_casesNow := gi_sub (fun w h => List.mem_cons_of_mem _ (List.mem_append_left _ (List.mem_append_right _ (List.mem_append_right _ h)))) gd_wsX11_casesNow
set_option maxRecDepth 20000 in
theorem gX11_cases_X11_casesNow : GoodIn wsX11_cases (wsV RX11 385 RX11 yX11_casesNow wsX11_casesNow) := goodIn_app (goodIn_r _ [5, 6, 7, 4] (by decide +kernel) (by decide +kernel)) ggX11_cases_X11_casesNow
theorem dX11_cases_0 : decode cX11_cases 0 = .ok (.aload_n 0, 1) := dc1_42 (by decide +kernel)
theorem dX11_cases_1 : decode cX11_cases 1 = .ok (.invokevirtual 352, 3) := dcw_182 (by decide +kernel)
theorem dX11_cases_4 : decode cX11_cases 4 = .ok (.aload_n 0, 1) := dc1_42 (by decide +kernel)
theorem dX11_cases_5 : decode cX11_cases 5 = .ok (.invokevirtual 385, 3) := dcw_182 (by decide +kernel)
theorem dX11_cases_8 : decode cX11_cases 8 = .ok (.ireturn, 1) := dc1_172 (by decide +kernel)
theorem ggX11_mayBe_X11_mayAt : GoodIn wsX11_mayBe wsX11_mayAt := gi_sub (fun w h => List.mem_cons_of_mem _ (List.mem_append_left _ (List.mem_append_right _ h))) gd_wsX11_mayAt
set_option maxRecDepth 20000 in
theorem gX11_mayBe_X11_mayAt : GoodIn wsX11_mayBe (wsV RX11 309 RX11 yX11_mayAt wsX11_mayAt) := goodIn_app (goodIn_r _ [1, 2, 3, 4] (by decide +kernel) (by decide +kernel)) ggX11_mayBe_X11_mayAt
theorem dX11_mayBe_0 : decode cX11_mayBe 0 = .ok (.aload_n 0, 1) := dc1_42 (by decide +kernel)
theorem dX11_mayBe_1 : decode cX11_mayBe 1 = .ok (.iload_n 1, 1) := dc1_27 (by decide +kernel)
theorem dX11_mayBe_2 : decode cX11_mayBe 2 = .ok (.invokevirtual 309, 3) := dcw_182 (by decide +kernel)
theorem dX11_mayBe_5 : decode cX11_mayBe 5 = .ok (.iload_n 2, 1) := dc1_28 (by decide +kernel)
theorem dX11_mayBe_6 : decode cX11_mayBe 6 = .ok (.ishr, 1) := dc1_122 (by decide +kernel)
theorem dX11_mayBe_7 : decode cX11_mayBe 7 = .ok (.iconst 1, 1) := dc1_4 (by decide +kernel)
theorem dX11_mayBe_8 : decode cX11_mayBe 8 = .ok (.iand, 1) := dc1_126 (by decide +kernel)
theorem dX11_mayBe_9 : decode cX11_mayBe 9 = .ok (.iconst 1, 1) := dc1_4 (by decide +kernel)
theorem dX11_mayBe_10 : decode cX11_mayBe 10 = .ok (.if_icmp .ne 7, 3) := dcs_160 (n := 7) (by decide +kernel)
theorem dX11_mayBe_13 : decode cX11_mayBe 13 = .ok (.iconst 1, 1) := dc1_4 (by decide +kernel)
theorem dX11_mayBe_14 : decode cX11_mayBe 14 = .ok (.goto 4, 3) := dcs_167 (n := 4) (by decide +kernel)
theorem dX11_mayBe_17 : decode cX11_mayBe 17 = .ok (.iconst 0, 1) := dc1_3 (by decide +kernel)
theorem dX11_mayBe_18 : decode cX11_mayBe 18 = .ok (.ireturn, 1) := dc1_172 (by decide +kernel)
theorem ggX11_chanceOf_X11_thingAt : GoodIn wsX11_chanceOf wsX11_thingAt := gi_sub (fun w h => List.mem_cons_of_mem _ (List.mem_append_left _ (List.mem_append_right _ (List.mem_append_left _ h)))) gd_wsX11_thingAt
set_option maxRecDepth 20000 in
theorem gX11_chanceOf_X11_thingAt : GoodIn wsX11_chanceOf (wsV RX11 330 RX11 yX11_thingAt wsX11_thingAt) := goodIn_app (goodIn_r _ [3, 4, 5, 6] (by decide +kernel) (by decide +kernel)) ggX11_chanceOf_X11_thingAt
theorem ggX11_chanceOf_X11_mayBe : GoodIn wsX11_chanceOf wsX11_mayBe := gi_sub (fun w h => List.mem_cons_of_mem _ (List.mem_append_left _ (List.mem_append_right _ (List.mem_append_right _ (List.mem_append_left _ h))))) gd_wsX11_mayBe
set_option maxRecDepth 20000 in
theorem gX11_chanceOf_X11_mayBe : GoodIn wsX11_chanceOf (wsV RX11 388 RX11 yX11_mayBe wsX11_mayBe) := goodIn_app (goodIn_r _ [7, 8, 9, 6] (by decide +kernel) (by decide +kernel)) ggX11_chanceOf_X11_mayBe
theorem ggX11_chanceOf_X11_oddsAt : GoodIn wsX11_chanceOf wsX11_oddsAt := gi_sub (fun w h => List.mem_cons_of_mem _ (List.mem_append_left _ (List.mem_append_right _ (List.mem_append_right _ (List.mem_append_right _ h))))) gd_wsX11_oddsAt
set_option maxRecDepth 20000 in
theorem gX11_chanceOf_X11_oddsAt : GoodIn wsX11_chanceOf (wsV RX11 297 RX11 yX11_oddsAt wsX11_oddsAt) := goodIn_app (goodIn_r _ [10, 11, 12, 6] (by decide +kernel) (by decide +kernel)) ggX11_chanceOf_X11_oddsAt
theorem dX11_chanceOf_0 : decode cX11_chanceOf 0 = .ok (.iconst 1, 1) := dc1_4 (by decide +kernel)
theorem dX11_chanceOf_1 : decode cX11_chanceOf 1 = .ok (.istore_n 2, 1) := dc1_61 (by decide +kernel)
theorem dX11_chanceOf_2 : decode cX11_chanceOf 2 = .ok (.iconst 0, 1) := dc1_3 (by decide +kernel)
theorem dX11_chanceOf_3 : decode cX11_chanceOf 3 = .ok (.istore_n 3, 1) := dc1_62 (by decide +kernel)
theorem dX11_chanceOf_4 : decode cX11_chanceOf 4 = .ok (.iload_n 3, 1) := dc1_29 (by decide +kernel)
theorem dX11_chanceOf_5 : decode cX11_chanceOf 5 = .ok (.aload_n 0, 1) := dc1_42 (by decide +kernel)
theorem dX11_chanceOf_6 : decode cX11_chanceOf 6 = .ok (.getfield 40, 3) := dcw_180 (by decide +kernel)
theorem dX11_chanceOf_9 : decode cX11_chanceOf 9 = .ok (.aload_n 0, 1) := dc1_42 (by decide +kernel)
theorem dX11_chanceOf_10 : decode cX11_chanceOf 10 = .ok (.getfield 215, 3) := dcw_180 (by decide +kernel)
theorem dX11_chanceOf_13 : decode cX11_chanceOf 13 = .ok (.iaload, 1) := dc1_46 (by decide +kernel)
theorem dX11_chanceOf_14 : decode cX11_chanceOf 14 = .ok (.if_icmp .ge 41, 3) := dcs_162 (n := 41) (by decide +kernel)
theorem dX11_chanceOf_17 : decode cX11_chanceOf 17 = .ok (.aload_n 0, 1) := dc1_42 (by decide +kernel)
theorem dX11_chanceOf_18 : decode cX11_chanceOf 18 = .ok (.iload_n 1, 1) := dc1_27 (by decide +kernel)
theorem dX11_chanceOf_19 : decode cX11_chanceOf 19 = .ok (.iload_n 3, 1) := dc1_29 (by decide +kernel)
theorem dX11_chanceOf_20 : decode cX11_chanceOf 20 = .ok (.invokevirtual 330, 3) := dcw_182 (by decide +kernel)
theorem dX11_chanceOf_23 : decode cX11_chanceOf 23 = .ok (.istore 4, 2) := dcu_54 (by decide +kernel)
theorem dX11_chanceOf_25 : decode cX11_chanceOf 25 = .ok (.iload_n 2, 1) := dc1_28 (by decide +kernel)
theorem dX11_chanceOf_26 : decode cX11_chanceOf 26 = .ok (.aload_n 0, 1) := dc1_42 (by decide +kernel)
theorem dX11_chanceOf_27 : decode cX11_chanceOf 27 = .ok (.iload_n 3, 1) := dc1_29 (by decide +kernel)
theorem dX11_chanceOf_28 : decode cX11_chanceOf 28 = .ok (.iload 4, 2) := dcu_21 (by decide +kernel)
theorem dX11_chanceOf_30 : decode cX11_chanceOf 30 = .ok (.invokevirtual 388, 3) := dcw_182 (by decide +kernel)
theorem dX11_chanceOf_33 : decode cX11_chanceOf 33 = .ok (.ifCond .eq 13, 3) := dcs_153 (n := 13) (by decide +kernel)
theorem dX11_chanceOf_36 : decode cX11_chanceOf 36 = .ok (.aload_n 0, 1) := dc1_42 (by decide +kernel)
theorem dX11_chanceOf_37 : decode cX11_chanceOf 37 = .ok (.iload_n 3, 1) := dc1_29 (by decide +kernel)
theorem dX11_chanceOf_38 : decode cX11_chanceOf 38 = .ok (.iload 4, 2) := dcu_21 (by decide +kernel)
theorem dX11_chanceOf_40 : decode cX11_chanceOf 40 = .ok (.invokevirtual 297, 3) := dcw_182 (by decide +kernel)
theorem dX11_chanceOf_43 : decode cX11_chanceOf 43 = .ok (.goto 4, 3) := dcs_167 (n := 4) (by decide +kernel)
theorem dX11_chanceOf_46 : decode cX11_chanceOf 46 = .ok (.iconst 0, 1) := dc1_3 (by decide +kernel)
theorem dX11_chanceOf_47 : decode cX11_chanceOf 47 = .ok (.imul, 1) := dc1_104 (by decide +kernel)
theorem dX11_chanceOf_48 : decode cX11_chanceOf 48 = .ok (.istore_n 2, 1) := dc1_61 (by decide +kernel)
theorem dX11_chanceOf_49 : decode cX11_chanceOf 49 = .ok (.iinc 3 1, 3) := dc_iinc (m := 1) (by decide +kernel)
theorem dX11_chanceOf_52 : decode cX11_chanceOf 52 = .ok (.goto (-48), 3) := dcs_167 (n := 65488) (by decide +kernel)
theorem dX11_chanceOf_55 : decode cX11_chanceOf 55 = .ok (.iload_n 2, 1) := dc1_28 (by decide +kernel)
theorem dX11_chanceOf_56 : decode cX11_chanceOf 56 = .ok (.ireturn, 1) := dc1_172 (by decide +kernel)
theorem ggX11_isCase_X11_thingAt : GoodIn wsX11_isCase wsX11_thingAt := gi_sub (fun w h => List.mem_cons_of_mem _ (List.mem_append_left _ (List.mem_append_right _ (List.mem_append_left _ h)))) gd_wsX11_thingAt
set_option maxRecDepth 20000 in
theorem gX11_isCase_X11_thingAt : GoodIn wsX11_isCase (wsV RX11 330 RX11 yX11_thingAt wsX11_thingAt) := goodIn_app (goodIn_r _ [3, 4, 5, 6] (by decide +kernel) (by decide +kernel)) ggX11_isCase_X11_thingAt
theorem ggX11_isCase_X11_mayBe : GoodIn wsX11_isCase wsX11_mayBe := gi_sub (fun w h => List.mem_cons_of_mem _ (List.mem_append_left _ (List.mem_append_right _ (List.mem_append_right _ h)))) gd_wsX11_mayBe
set_option maxRecDepth 20000 in
theorem gX11_isCase_X11_mayBe : GoodIn wsX11_isCase (wsV RX11 388 RX11 yX11_mayBe wsX11_mayBe) := goodIn_app (goodIn_r _ [7, 8, 9, 6] (by decide +kernel) (by decide +kernel)) ggX11_isCase_X11_mayBe
theorem dX11_isCase_0 : decode cX11_isCase 0 = .ok (.iconst 0, 1) := dc1_3 (by decide +kernel)
theorem dX11_isCase_1 : decode cX11_isCase 1 = .ok (.istore_n 2, 1) := dc1_61 (by decide +kernel)
theorem dX11_isCase_2 : decode cX11_isCase 2 = .ok (.iload_n 2, 1) := dc1_28 (by decide +kernel)
theorem dX11_isCase_3 : decode cX11_isCase 3 = .ok (.aload_n 0, 1) := dc1_42 (by decide +kernel)
theorem dX11_isCase_4 : decode cX11_isCase 4 = .ok (.getfield 40, 3) := dcw_180 (by decide +kernel)
theorem dX11_isCase_7 : decode cX11_isCase 7 = .ok (.aload_n 0, 1) := dc1_42 (by decide +kernel)
theorem dX11_isCase_8 : decode cX11_isCase 8 = .ok (.getfield 215, 3) := dcw_180 (by decide +kernel)
theorem dX11_isCase_11 : decode cX11_isCase 11 = .ok (.iaload, 1) := dc1_46 (by decide +kernel)
theorem dX11_isCase_12 : decode cX11_isCase 12 = .ok (.if_icmp .ge 25, 3) := dcs_162 (n := 25) (by decide +kernel)
theorem dX11_isCase_15 : decode cX11_isCase 15 = .ok (.aload_n 0, 1) := dc1_42 (by decide +kernel)
theorem dX11_isCase_16 : decode cX11_isCase 16 = .ok (.iload_n 2, 1) := dc1_28 (by decide +kernel)
theorem dX11_isCase_17 : decode cX11_isCase 17 = .ok (.aload_n 0, 1) := dc1_42 (by decide +kernel)
theorem dX11_isCase_18 : decode cX11_isCase 18 = .ok (.iload_n 1, 1) := dc1_27 (by decide +kernel)
theorem dX11_isCase_19 : decode cX11_isCase 19 = .ok (.iload_n 2, 1) := dc1_28 (by decide +kernel)
theorem dX11_isCase_20 : decode cX11_isCase 20 = .ok (.invokevirtual 330, 3) := dcw_182 (by decide +kernel)
theorem dX11_isCase_23 : decode cX11_isCase 23 = .ok (.invokevirtual 388, 3) := dcw_182 (by decide +kernel)
theorem dX11_isCase_26 : decode cX11_isCase 26 = .ok (.ifCond .ne 5, 3) := dcs_154 (n := 5) (by decide +kernel)
theorem dX11_isCase_29 : decode cX11_isCase 29 = .ok (.iconst 0, 1) := dc1_3 (by decide +kernel)
theorem dX11_isCase_30 : decode cX11_isCase 30 = .ok (.ireturn, 1) := dc1_172 (by decide +kernel)
theorem dX11_isCase_31 : decode cX11_isCase 31 = .ok (.iinc 2 1, 3) := dc_iinc (m := 1) (by decide +kernel)
theorem dX11_isCase_34 : decode cX11_isCase 34 = .ok (.goto (-32), 3) := dcs_167 (n := 65504) (by decide +kernel)
theorem dX11_isCase_37 : decode cX11_isCase 37 = .ok (.iconst 1, 1) := dc1_4 (by decide +kernel)
theorem dX11_isCase_38 : decode cX11_isCase 38 = .ok (.ireturn, 1) := dc1_172 (by decide +kernel)
theorem ggX11_chance_X11_isGuess : GoodIn wsX11_chance wsX11_isGuess := gi_sub (fun w h => List.mem_cons_of_mem _ (List.mem_append_left _ (List.mem_append_right _ (List.mem_append_left _ h)))) gd_wsX11_isGuess
set_option maxRecDepth 20000 in
theorem gX11_chance_X11_isGuess : GoodIn wsX11_chance (wsV RX11 367 RX11 yX11_isGuess wsX11_isGuess) := goodIn_app (goodIn_r _ [1, 2, 3, 4] (by decide +kernel) (by decide +kernel)) ggX11_chance_X11_isGuess
theorem ggX11_chance_X11_copies : GoodIn wsX11_chance wsX11_copies := gi_sub (fun w h => List.mem_cons_of_mem _ (List.mem_append_left _ (List.mem_append_right _ (List.mem_append_right _ (List.mem_append_left _ h))))) gd_wsX11_copies
set_option maxRecDepth 20000 in
theorem gX11_chance_X11_copies : GoodIn wsX11_chance (wsV RX11 352 RX11 yX11_copies wsX11_copies) := goodIn_app (goodIn_r _ [5, 6, 7, 4] (by decide +kernel) (by decide +kernel)) ggX11_chance_X11_copies
theorem ggX11_chance_X11_chanceOf : GoodIn wsX11_chance wsX11_chanceOf := gi_sub (fun w h => List.mem_cons_of_mem _ (List.mem_append_left _ (List.mem_append_right _ (List.mem_append_right _ (List.mem_append_right _ h))))) gd_wsX11_chanceOf
set_option maxRecDepth 20000 in
theorem gX11_chance_X11_chanceOf : GoodIn wsX11_chance (wsV RX11 392 RX11 yX11_chanceOf wsX11_chanceOf) := goodIn_app (goodIn_r _ [8, 9, 10, 4] (by decide +kernel) (by decide +kernel)) ggX11_chance_X11_chanceOf
theorem dX11_chance_0 : decode cX11_chance 0 = .ok (.aload_n 0, 1) := dc1_42 (by decide +kernel)
theorem dX11_chance_1 : decode cX11_chance 1 = .ok (.iload_n 1, 1) := dc1_27 (by decide +kernel)
theorem dX11_chance_2 : decode cX11_chance 2 = .ok (.invokevirtual 367, 3) := dcw_182 (by decide +kernel)
theorem dX11_chance_5 : decode cX11_chance 5 = .ok (.ifCond .ne 5, 3) := dcs_154 (n := 5) (by decide +kernel)
theorem dX11_chance_8 : decode cX11_chance 8 = .ok (.iconst (-1), 1) := dc1_2 (by decide +kernel)
theorem dX11_chance_9 : decode cX11_chance 9 = .ok (.ireturn, 1) := dc1_172 (by decide +kernel)
theorem dX11_chance_10 : decode cX11_chance 10 = .ok (.aload_n 0, 1) := dc1_42 (by decide +kernel)
theorem dX11_chance_11 : decode cX11_chance 11 = .ok (.invokevirtual 352, 3) := dcw_182 (by decide +kernel)
theorem dX11_chance_14 : decode cX11_chance 14 = .ok (.aload_n 0, 1) := dc1_42 (by decide +kernel)
theorem dX11_chance_15 : decode cX11_chance 15 = .ok (.iload_n 1, 1) := dc1_27 (by decide +kernel)
theorem dX11_chance_16 : decode cX11_chance 16 = .ok (.invokevirtual 392, 3) := dcw_182 (by decide +kernel)
theorem dX11_chance_19 : decode cX11_chance 19 = .ok (.ireturn, 1) := dc1_172 (by decide +kernel)
theorem ggX11_sumAt_X11_mayBe : GoodIn wsX11_sumAt wsX11_mayBe := gi_sub (fun w h => List.mem_cons_of_mem _ (List.mem_append_left _ (List.mem_append_right _ (List.mem_append_left _ h)))) gd_wsX11_mayBe
set_option maxRecDepth 20000 in
theorem gX11_sumAt_X11_mayBe : GoodIn wsX11_sumAt (wsV RX11 388 RX11 yX11_mayBe wsX11_mayBe) := goodIn_app (goodIn_r _ [1, 2, 3, 4] (by decide +kernel) (by decide +kernel)) ggX11_sumAt_X11_mayBe
theorem ggX11_sumAt_X11_oddsAt : GoodIn wsX11_sumAt wsX11_oddsAt := gi_sub (fun w h => List.mem_cons_of_mem _ (List.mem_append_left _ (List.mem_append_right _ (List.mem_append_right _ h)))) gd_wsX11_oddsAt
set_option maxRecDepth 20000 in
theorem gX11_sumAt_X11_oddsAt : GoodIn wsX11_sumAt (wsV RX11 297 RX11 yX11_oddsAt wsX11_oddsAt) := goodIn_app (goodIn_r _ [5, 6, 7, 4] (by decide +kernel) (by decide +kernel)) ggX11_sumAt_X11_oddsAt
theorem dX11_sumAt_0 : decode cX11_sumAt 0 = .ok (.iconst 0, 1) := dc1_3 (by decide +kernel)
theorem dX11_sumAt_1 : decode cX11_sumAt 1 = .ok (.istore_n 2, 1) := dc1_61 (by decide +kernel)
theorem dX11_sumAt_2 : decode cX11_sumAt 2 = .ok (.iconst 0, 1) := dc1_3 (by decide +kernel)
theorem dX11_sumAt_3 : decode cX11_sumAt 3 = .ok (.istore_n 3, 1) := dc1_62 (by decide +kernel)
theorem dX11_sumAt_4 : decode cX11_sumAt 4 = .ok (.iload_n 3, 1) := dc1_29 (by decide +kernel)
theorem dX11_sumAt_5 : decode cX11_sumAt 5 = .ok (.bipush 6, 2) := dcb_16 (n := 6) (by decide +kernel)
theorem dX11_sumAt_7 : decode cX11_sumAt 7 = .ok (.if_icmp .ge 27, 3) := dcs_162 (n := 27) (by decide +kernel)
theorem dX11_sumAt_10 : decode cX11_sumAt 10 = .ok (.aload_n 0, 1) := dc1_42 (by decide +kernel)
theorem dX11_sumAt_11 : decode cX11_sumAt 11 = .ok (.iload_n 1, 1) := dc1_27 (by decide +kernel)
theorem dX11_sumAt_12 : decode cX11_sumAt 12 = .ok (.iload_n 3, 1) := dc1_29 (by decide +kernel)
theorem dX11_sumAt_13 : decode cX11_sumAt 13 = .ok (.invokevirtual 388, 3) := dcw_182 (by decide +kernel)
theorem dX11_sumAt_16 : decode cX11_sumAt 16 = .ok (.ifCond .eq 12, 3) := dcs_153 (n := 12) (by decide +kernel)
theorem dX11_sumAt_19 : decode cX11_sumAt 19 = .ok (.iload_n 2, 1) := dc1_28 (by decide +kernel)
theorem dX11_sumAt_20 : decode cX11_sumAt 20 = .ok (.aload_n 0, 1) := dc1_42 (by decide +kernel)
theorem dX11_sumAt_21 : decode cX11_sumAt 21 = .ok (.iload_n 1, 1) := dc1_27 (by decide +kernel)
theorem dX11_sumAt_22 : decode cX11_sumAt 22 = .ok (.iload_n 3, 1) := dc1_29 (by decide +kernel)
theorem dX11_sumAt_23 : decode cX11_sumAt 23 = .ok (.invokevirtual 297, 3) := dcw_182 (by decide +kernel)
theorem dX11_sumAt_26 : decode cX11_sumAt 26 = .ok (.iadd, 1) := dc1_96 (by decide +kernel)
theorem dX11_sumAt_27 : decode cX11_sumAt 27 = .ok (.istore_n 2, 1) := dc1_61 (by decide +kernel)
theorem dX11_sumAt_28 : decode cX11_sumAt 28 = .ok (.iinc 3 1, 3) := dc_iinc (m := 1) (by decide +kernel)
theorem dX11_sumAt_31 : decode cX11_sumAt 31 = .ok (.goto (-27), 3) := dcs_167 (n := 65509) (by decide +kernel)
theorem dX11_sumAt_34 : decode cX11_sumAt 34 = .ok (.iload_n 2, 1) := dc1_28 (by decide +kernel)
theorem dX11_sumAt_35 : decode cX11_sumAt 35 = .ok (.ireturn, 1) := dc1_172 (by decide +kernel)
theorem ggX11_all_X11_copies : GoodIn wsX11_all wsX11_copies := gi_sub (fun w h => List.mem_cons_of_mem _ (List.mem_append_left _ (List.mem_append_right _ (List.mem_append_left _ h)))) gd_wsX11_copies
set_option maxRecDepth 20000 in
theorem gX11_all_X11_copies : GoodIn wsX11_all (wsV RX11 352 RX11 yX11_copies wsX11_copies) := goodIn_app (goodIn_r _ [3, 4, 5, 6] (by decide +kernel) (by decide +kernel)) ggX11_all_X11_copies
theorem ggX11_all_X11_sumAt : GoodIn wsX11_all wsX11_sumAt := gi_sub (fun w h => List.mem_cons_of_mem _ (List.mem_append_left _ (List.mem_append_right _ (List.mem_append_right _ h)))) gd_wsX11_sumAt
set_option maxRecDepth 20000 in
theorem gX11_all_X11_sumAt : GoodIn wsX11_all (wsV RX11 395 RX11 yX11_sumAt wsX11_sumAt) := goodIn_app (goodIn_r _ [7, 8, 9, 6] (by decide +kernel) (by decide +kernel)) ggX11_all_X11_sumAt
theorem dX11_all_0 : decode cX11_all 0 = .ok (.aload_n 0, 1) := dc1_42 (by decide +kernel)
theorem dX11_all_1 : decode cX11_all 1 = .ok (.invokevirtual 352, 3) := dcw_182 (by decide +kernel)
theorem dX11_all_4 : decode cX11_all 4 = .ok (.iconst 1, 1) := dc1_4 (by decide +kernel)
theorem dX11_all_5 : decode cX11_all 5 = .ok (.istore_n 1, 1) := dc1_60 (by decide +kernel)
theorem dX11_all_6 : decode cX11_all 6 = .ok (.iconst 0, 1) := dc1_3 (by decide +kernel)
theorem dX11_all_7 : decode cX11_all 7 = .ok (.istore_n 2, 1) := dc1_61 (by decide +kernel)
theorem dX11_all_8 : decode cX11_all 8 = .ok (.iload_n 2, 1) := dc1_28 (by decide +kernel)
theorem dX11_all_9 : decode cX11_all 9 = .ok (.aload_n 0, 1) := dc1_42 (by decide +kernel)
theorem dX11_all_10 : decode cX11_all 10 = .ok (.getfield 40, 3) := dcw_180 (by decide +kernel)
theorem dX11_all_13 : decode cX11_all 13 = .ok (.aload_n 0, 1) := dc1_42 (by decide +kernel)
theorem dX11_all_14 : decode cX11_all 14 = .ok (.getfield 215, 3) := dcw_180 (by decide +kernel)
theorem dX11_all_17 : decode cX11_all 17 = .ok (.iaload, 1) := dc1_46 (by decide +kernel)
theorem dX11_all_18 : decode cX11_all 18 = .ok (.if_icmp .ge 17, 3) := dcs_162 (n := 17) (by decide +kernel)
theorem dX11_all_21 : decode cX11_all 21 = .ok (.iload_n 1, 1) := dc1_27 (by decide +kernel)
theorem dX11_all_22 : decode cX11_all 22 = .ok (.aload_n 0, 1) := dc1_42 (by decide +kernel)
theorem dX11_all_23 : decode cX11_all 23 = .ok (.iload_n 2, 1) := dc1_28 (by decide +kernel)
theorem dX11_all_24 : decode cX11_all 24 = .ok (.invokevirtual 395, 3) := dcw_182 (by decide +kernel)
theorem dX11_all_27 : decode cX11_all 27 = .ok (.imul, 1) := dc1_104 (by decide +kernel)
theorem dX11_all_28 : decode cX11_all 28 = .ok (.istore_n 1, 1) := dc1_60 (by decide +kernel)
theorem dX11_all_29 : decode cX11_all 29 = .ok (.iinc 2 1, 3) := dc_iinc (m := 1) (by decide +kernel)
theorem dX11_all_32 : decode cX11_all 32 = .ok (.goto (-24), 3) := dcs_167 (n := 65512) (by decide +kernel)
theorem dX11_all_35 : decode cX11_all 35 = .ok (.iload_n 1, 1) := dc1_27 (by decide +kernel)
theorem dX11_all_36 : decode cX11_all 36 = .ok (.ireturn, 1) := dc1_172 (by decide +kernel)
theorem LX11_fetch_101 : Cond.fieldLink RX11 101 "GuessFerryModel" "row" "[I" ∈ wsX11_fetch := (List.mem_cons_of_mem _ (List.mem_append_left _ (List.mem_append_left _ (List.mem_of_getElem? (i := 1) rfl))))
theorem LX11_fetch_98 : Cond.fieldLink RX11 98 "GuessFerryModel" "now" "[I" ∈ wsX11_fetch := (List.mem_cons_of_mem _ (List.mem_append_left _ (List.mem_append_left _ (List.mem_of_getElem? (i := 0) rfl))))
theorem inX11_fetch_X11 : ∀ w ∈ u_ws RX11 TX11 58, w ∈ wsX11_fetch := fun w h => (List.mem_cons_of_mem _ (List.mem_append_right _ h))
set_option maxHeartbeats 4000000 in
set_option maxRecDepth 100000 in
theorem br_fetch {l : Launch} {dC : Nat → ClassId} {dI : Nat → Nat → Nat} {cB cI cJ cZ cS : ClassId} {h : Nat} {a : Nat → Nat} {as : List Value} {r : Int32} {s' : RS} (s : RS) (x1 : Int32) (hB : r_fetch s x1 = some (r, s')) : BlkI l yX11_fetch wsX11_fetch ({ frames := 2, cells := 0, slots := 0, locals := 43 }) cX11_fetch 2 (some .boolean) (dC, dI) (tysA cB cI cJ cZ cS) as 0 (mwS cB cI cJ cZ h a s) [(0, .ref h), (1, .int x1)] [] (fun x u => x = r ∧ u = (mwS cB cI cJ cZ h a s')) := by
  intro p e s0 m below meth c A E H locs ls hP hD hS hl
  obtain ⟨C, hr, hlocks, hA, hK, hN⟩ := id E
  obtain ⟨hx, hb, hml, hown, hts⟩ := id C
  unfold r_fetch at hB
  refine lv_aload_n hx hb dX11_fetch_0 rfl (lv_at hl 0 rfl) ?_
  refine lv_iload_n hx hb dX11_fetch_1 rfl (lv_at hl 1 rfl) ?_
  obtain ⟨q_, s1, hc, hB⟩ := bindI_inv hB
  refine q_goiF (va_runV (As := [.int x1]) (rest := []) C (cr_isParty hc _) (cwV 1 hts gX11_fetch_X11_isParty rfl rfl rfl (by decide +kernel) ⟨Nat.le_of_ble_eq_true rfl, Nat.le_of_ble_eq_true rfl⟩) (q_preV hK hP (ci := 11) (q0 := 0) rfl rfl rfl (q_preF hN hK hP hD)) rfl rfl hl.1 rfl (lv_room (Nat.le_of_ble_eq_true rfl)) dX11_fetch_2 ⟨Nat.le_of_ble_eq_true rfl, Nat.le_of_ble_eq_true rfl⟩) hD hS hA (fun r2 w1 H locs hw hP hD hS => ?_)
  obtain ⟨hq_, hw⟩ := hw; subst hw; subst hq_
  refine lv_if_eq (tgt := 20) hx hb dX11_fetch_5 (by decide) (fun c3 => ?_) (fun c3 => ?_)
  · have hB := if_p hB c3
    refine lv_iconst (v := 0) hx hb dX11_fetch_20 (by decide) ?_
    exact q_zret C hr hlocks (Or.inl rfl) hK hP hD hS (Nat.le_of_ble_eq_true rfl) (Nat.le_of_ble_eq_true rfl) dX11_fetch_21 (by cases hB; exact ⟨rfl, rfl⟩)
  · have hB := if_n hB c3
    refine lv_aload_n hx hb dX11_fetch_8 rfl (lv_at hl 0 rfl) ?_
    refine q_get (v := .ref (a 43)) C inX11_fetch_X11 hK hP 0 rfl rfl 43 (by decide) rfl LX11_fetch_98 rfl dX11_fetch_9 ?_
    refine lv_bipush (v := 15) hx hb dX11_fetch_12 (by decide) ?_
    refine lv_iload_n hx hb dX11_fetch_14 rfl (lv_at hl 1 rfl) ?_
    refine lv_iadd hx hb dX11_fetch_15 ?_
    obtain ⟨g4, hB⟩ := guard_inv hB
    refine q_iald (x := (s1.f 43 (Int32.toNatClampNeg (15 + x1)))) C hK hP 27 1 rfl rfl (vpb_in g4) dX11_fetch_16 rfl ?_
    refine lv_if_ne (tgt := 22) hx hb dX11_fetch_17 (by decide) (fun c5 => ?_) (fun c5 => ?_)
    · have hB := if_n hB c5
      refine lv_aload_n hx hb dX11_fetch_22 rfl (lv_at hl 0 rfl) ?_
      obtain ⟨s6, hc, hB⟩ := bindP_inv hB
      refine q_govF (va_runV (As := []) (rest := []) C (cr_copies hc _) (cwV 0 hts gX11_fetch_X11_copies rfl rfl rfl (by decide +kernel) ⟨Nat.le_of_ble_eq_true rfl, Nat.le_of_ble_eq_true rfl⟩) (q_preV hK hP (ci := 11) (q0 := 0) rfl rfl rfl (q_preF hN hK hP hD)) rfl rfl hl.1 rfl (lv_room (Nat.le_of_ble_eq_true rfl)) dX11_fetch_23 ⟨Nat.le_of_ble_eq_true rfl, Nat.le_of_ble_eq_true rfl⟩) hD hS hA (fun w1 H locs hw hP hD hS => ?_)
      subst hw
      refine lv_aload_n hx hb dX11_fetch_26 rfl (lv_at hl 0 rfl) ?_
      refine q_get (v := .ref (a 44)) C inX11_fetch_X11 hK hP 0 rfl rfl 44 (by decide) rfl LX11_fetch_101 rfl dX11_fetch_27 ?_
      refine lv_bipush (v := 15) hx hb dX11_fetch_30 (by decide) ?_
      refine lv_iload_n hx hb dX11_fetch_32 rfl (lv_at hl 1 rfl) ?_
      refine lv_iadd hx hb dX11_fetch_33 ?_
      refine lv_iconst (v := 0) hx hb dX11_fetch_34 (by decide) ?_
      obtain ⟨g7, hB⟩ := guard_inv hB
      obtain ⟨s8, hs9, hB⟩ := letS_inv hB
      refine q_iast (f2 := (upd (s6.f 44) (Int32.toNatClampNeg (15 + x1)) 0)) (w2 := (mwS cB cI cJ cZ h a s8)) C hK hP hD hS 28 1 rfl rfl (vpb_in g7) dX11_fetch_35 rfl (mwS_f44 hs9) (fun H locs hP hD hS => ?_)
      refine lv_aload_n hx hb dX11_fetch_36 rfl (lv_at hl 0 rfl) ?_
      obtain ⟨s10, hc, hB⟩ := bindP_inv hB
      refine q_govF (va_runV (As := []) (rest := []) C (cr_records hc _) (cwV 0 hts gX11_fetch_X11_records rfl rfl rfl (by decide +kernel) ⟨Nat.le_of_ble_eq_true rfl, Nat.le_of_ble_eq_true rfl⟩) (q_preV hK hP (ci := 11) (q0 := 0) rfl rfl rfl (q_preF hN hK hP hD)) rfl rfl hl.1 rfl (lv_room (Nat.le_of_ble_eq_true rfl)) dX11_fetch_37 ⟨Nat.le_of_ble_eq_true rfl, Nat.le_of_ble_eq_true rfl⟩) hD hS hA (fun w1 H locs hw hP hD hS => ?_)
      subst hw
      refine lv_iconst (v := 1) hx hb dX11_fetch_40 (by decide) ?_
      exact q_zret C hr hlocks (Or.inr rfl) hK hP hD hS (Nat.le_of_ble_eq_true rfl) (Nat.le_of_ble_eq_true rfl) dX11_fetch_41 (by cases hB; exact ⟨rfl, rfl⟩)
    · have hB := if_p hB c5
      refine lv_iconst (v := 0) hx hb dX11_fetch_20 (by decide) ?_
      exact q_zret C hr hlocks (Or.inl rfl) hK hP hD hS (Nat.le_of_ble_eq_true rfl) (Nat.le_of_ble_eq_true rfl) dX11_fetch_21 (by cases hB; exact ⟨rfl, rfl⟩)
theorem cr_fetch {l : Launch} {dC : Nat → ClassId} {dI : Nat → Nat → Nat} {cB cI cJ cZ cS : ClassId} {h : Nat} {a : Nat → Nat} {r : Int32} {s' : RS} {s : RS} {x1 : Int32} (hB : r_fetch s x1 = some (r, s')) : CI l yX11_fetch wsX11_fetch ({ frames := 2, cells := 0, slots := 0, locals := 43 }) (dC, dI) (tysA cB cI cJ cZ cS) (mwS cB cI cJ cZ h a s) [.ref h, .int x1] (fun x u => x = r ∧ u = (mwS cB cI cJ cZ h a s')) :=
  CI_of (cc := cX11_fetch) (maxL := 2) (ret := (some .boolean)) (by decide) rfl (Nat.le_of_ble_eq_true rfl) (br_fetch _ _ hB)
set_option maxHeartbeats 4000000 in
set_option maxRecDepth 100000 in
theorem br_isLong {l : Launch} {dC : Nat → ClassId} {dI : Nat → Nat → Nat} {cB cI cJ cZ cS : ClassId} {as : List Value} {r : Int32} (x0 : Int32) (hB : r_isLong x0 = some r) : BlkI l yX11_isLong wsX11_isLong ({ frames := 1, cells := 0, slots := 0, locals := 22 }) cX11_isLong 1 (some .boolean) (dC, dI) (tysA cB cI cJ cZ cS) as 0 [] [(0, .int x0)] [] (fun x _ => x = r) := by
  intro p e s0 m below meth c A E H locs ls hP hD hS hl
  obtain ⟨C, hr, hlocks, hA, hK, hN⟩ := id E
  obtain ⟨hx, hb, hml, hown, hts⟩ := id C
  unfold r_isLong at hB
  refine lv_iload_n hx hb dX11_isLong_0 rfl (lv_at hl 0 rfl) ?_
  refine lv_iconst (v := 0) hx hb dX11_isLong_1 (by decide) ?_
  refine lv_bipush (v := 40) hx hb dX11_isLong_2 (by decide) ?_
  obtain ⟨q_, hc, hB⟩ := bindP_inv hB
  refine q_goi0 (va_runS (As := [.int x0, .int 0, .int 40]) (rest := []) C (cr_in hc _) (va_cwS 3 hts gX11_isLong_X11_in rfl rfl rfl (by decide +kernel) ⟨Nat.le_of_ble_eq_true rfl, Nat.le_of_ble_eq_true rfl⟩) (q_pre0 hN hK) rfl rfl hl.1 rfl (lv_room (Nat.le_of_ble_eq_true rfl)) dX11_isLong_4 ⟨Nat.le_of_ble_eq_true rfl, Nat.le_of_ble_eq_true rfl⟩) hP hD hS hA (fun r1 w1 H locs hw hP hS => ?_)
  subst hw
  obtain ⟨z2, hB⟩ := guard_inv hB
  exact q_zret C hr hlocks z2 hK hP hD hS (Nat.le_of_ble_eq_true rfl) (Nat.le_of_ble_eq_true rfl) dX11_isLong_7 (by cases hB; rfl)
theorem cr_isLong {l : Launch} {dC : Nat → ClassId} {dI : Nat → Nat → Nat} {cB cI cJ cZ cS : ClassId} {r : Int32} {x0 : Int32} (hB : r_isLong x0 = some r) : CI l yX11_isLong wsX11_isLong ({ frames := 1, cells := 0, slots := 0, locals := 22 }) (dC, dI) (tysA cB cI cJ cZ cS) [] [.int x0] (fun x _ => x = r) :=
  CI_of (cc := cX11_isLong) (maxL := 1) (ret := (some .boolean)) (by decide) rfl (Nat.le_of_ble_eq_true rfl) (br_isLong _ hB)
theorem LX11_years_98 : Cond.fieldLink RX11 98 "GuessFerryModel" "now" "[I" ∈ wsX11_years := (List.mem_cons_of_mem _ (List.mem_append_left _ (List.mem_append_left _ (List.mem_of_getElem? (i := 0) rfl))))
theorem inX11_years_X11 : ∀ w ∈ u_ws RX11 TX11 58, w ∈ wsX11_years := fun w h => (List.mem_cons_of_mem _ (List.mem_append_right _ h))
set_option maxHeartbeats 4000000 in
set_option maxRecDepth 100000 in
theorem br_years {l : Launch} {dC : Nat → ClassId} {dI : Nat → Nat → Nat} {cB cI cJ cZ cS : ClassId} {h : Nat} {a : Nat → Nat} {as : List Value} {r : Int32} {s' : RS} (s : RS) (x1 : Int32) (hB : r_years s x1 = some (r, s')) : BlkI l yX11_years wsX11_years ({ frames := 6, cells := 0, slots := 0, locals := 130 }) cX11_years 2 (some .int) (dC, dI) (tysA cB cI cJ cZ cS) as 0 (mwS cB cI cJ cZ h a s) [(0, .ref h), (1, .int x1)] [] (fun x u => x = r ∧ u = (mwS cB cI cJ cZ h a s')) := by
  intro p e s0 m below meth c A E H locs ls hP hD hS hl
  obtain ⟨C, hr, hlocks, hA, hK, hN⟩ := id E
  obtain ⟨hx, hb, hml, hown, hts⟩ := id C
  unfold r_years at hB
  refine lv_iload_n hx hb dX11_years_0 rfl (lv_at hl 1 rfl) ?_
  obtain ⟨q_, hc, hB⟩ := bindP_inv hB
  refine q_goi0 (va_runS (As := [.int x1]) (rest := []) C (cr_isLong hc _) (va_cwS 1 hts gX11_years_X11_isLong rfl rfl rfl (by decide +kernel) ⟨Nat.le_of_ble_eq_true rfl, Nat.le_of_ble_eq_true rfl⟩) (q_pre0 hN hK) rfl rfl hl.1 rfl (lv_room (Nat.le_of_ble_eq_true rfl)) dX11_years_1 ⟨Nat.le_of_ble_eq_true rfl, Nat.le_of_ble_eq_true rfl⟩) hP hD hS hA (fun r1 w1 H locs hw hP hS => ?_)
  subst hw
  refine lv_if_ne (tgt := 9) hx hb dX11_years_4 (by decide) (fun c2 => ?_) (fun c2 => ?_)
  · have hB := if_n hB c2
    refine lv_iload_n hx hb dX11_years_9 rfl (lv_at hl 1 rfl) ?_
    refine lv_if_ne (tgt := 21) hx hb dX11_years_10 (by decide) (fun c3 => ?_) (fun c3 => ?_)
    · have hB := if_n hB c3
      refine lv_aload_n hx hb dX11_years_21 rfl (lv_at hl 0 rfl) ?_
      obtain ⟨s4, hc, hB⟩ := bindP_inv hB
      refine q_govF (va_runV (As := []) (rest := []) C (cr_copies hc _) (cwV 0 hts gX11_years_X11_copies rfl rfl rfl (by decide +kernel) ⟨Nat.le_of_ble_eq_true rfl, Nat.le_of_ble_eq_true rfl⟩) (q_preV hK hP (ci := 11) (q0 := 0) rfl rfl rfl (q_preF hN hK hP hD)) rfl rfl hl.1 rfl (lv_room (Nat.le_of_ble_eq_true rfl)) dX11_years_22 ⟨Nat.le_of_ble_eq_true rfl, Nat.le_of_ble_eq_true rfl⟩) hD hS hA (fun w1 H locs hw hP hD hS => ?_)
      subst hw
      refine lv_aload_n hx hb dX11_years_25 rfl (lv_at hl 0 rfl) ?_
      refine lv_iload_n hx hb dX11_years_26 rfl (lv_at hl 1 rfl) ?_
      obtain ⟨s5, hc, hB⟩ := bindP_inv hB
      refine q_govF (va_runV (As := [.int x1]) (rest := []) C (cr_yearsGo hc _) (cwV 1 hts gX11_years_X11_yearsGo rfl rfl rfl (by decide +kernel) ⟨Nat.le_of_ble_eq_true rfl, Nat.le_of_ble_eq_true rfl⟩) (q_preV hK hP (ci := 11) (q0 := 0) rfl rfl rfl (q_preF hN hK hP hD)) rfl rfl hl.1 rfl (lv_room (Nat.le_of_ble_eq_true rfl)) dX11_years_27 ⟨Nat.le_of_ble_eq_true rfl, Nat.le_of_ble_eq_true rfl⟩) hD hS hA (fun w1 H locs hw hP hD hS => ?_)
      subst hw
      refine lv_aload_n hx hb dX11_years_30 rfl (lv_at hl 0 rfl) ?_
      obtain ⟨s6, hc, hB⟩ := bindP_inv hB
      refine q_govF (va_runV (As := []) (rest := []) C (cr_records hc _) (cwV 0 hts gX11_years_X11_records rfl rfl rfl (by decide +kernel) ⟨Nat.le_of_ble_eq_true rfl, Nat.le_of_ble_eq_true rfl⟩) (q_preV hK hP (ci := 11) (q0 := 0) rfl rfl rfl (q_preF hN hK hP hD)) rfl rfl hl.1 rfl (lv_room (Nat.le_of_ble_eq_true rfl)) dX11_years_31 ⟨Nat.le_of_ble_eq_true rfl, Nat.le_of_ble_eq_true rfl⟩) hD hS hA (fun w1 H locs hw hP hD hS => ?_)
      subst hw
      refine lv_aload_n hx hb dX11_years_34 rfl (lv_at hl 0 rfl) ?_
      refine q_get (v := .ref (a 43)) C inX11_years_X11 hK hP 0 rfl rfl 43 (by decide) rfl LX11_years_98 rfl dX11_years_35 ?_
      refine lv_bipush (v := 27) hx hb dX11_years_38 (by decide) ?_
      refine q_iald (x := (s6.f 43 27)) C hK hP 27 1 rfl rfl (vp_lit (by decide +kernel)) dX11_years_40 rfl ?_
      exact q_iret C hr hlocks hK hP hD hS (Nat.le_of_ble_eq_true rfl) (Nat.le_of_ble_eq_true rfl) dX11_years_41 (by cases hB; exact ⟨rfl, rfl⟩)
    · have hB := if_p hB c3
      refine lv_aload_n hx hb dX11_years_13 rfl (lv_at hl 0 rfl) ?_
      refine q_get (v := .ref (a 43)) C inX11_years_X11 hK hP 0 rfl rfl 43 (by decide) rfl LX11_years_98 rfl dX11_years_14 ?_
      refine lv_bipush (v := 27) hx hb dX11_years_17 (by decide) ?_
      refine q_iald (x := (s.f 43 27)) C hK hP 27 1 rfl rfl (vp_lit (by decide +kernel)) dX11_years_19 rfl ?_
      exact q_iret C hr hlocks hK hP hD hS (Nat.le_of_ble_eq_true rfl) (Nat.le_of_ble_eq_true rfl) dX11_years_20 (by cases hB; exact ⟨rfl, rfl⟩)
  · have hB := if_p hB c2
    refine lv_iconst (v := (-1)) hx hb dX11_years_7 (by decide) ?_
    exact q_iret C hr hlocks hK hP hD hS (Nat.le_of_ble_eq_true rfl) (Nat.le_of_ble_eq_true rfl) dX11_years_8 (by cases hB; exact ⟨rfl, rfl⟩)
theorem cr_years {l : Launch} {dC : Nat → ClassId} {dI : Nat → Nat → Nat} {cB cI cJ cZ cS : ClassId} {h : Nat} {a : Nat → Nat} {r : Int32} {s' : RS} {s : RS} {x1 : Int32} (hB : r_years s x1 = some (r, s')) : CI l yX11_years wsX11_years ({ frames := 6, cells := 0, slots := 0, locals := 130 }) (dC, dI) (tysA cB cI cJ cZ cS) (mwS cB cI cJ cZ h a s) [.ref h, .int x1] (fun x u => x = r ∧ u = (mwS cB cI cJ cZ h a s')) :=
  CI_of (cc := cX11_years) (maxL := 2) (ret := (some .int)) (by decide) rfl (Nat.le_of_ble_eq_true rfl) (br_years _ _ hB)
theorem LX11_undo_110 : Cond.fieldLink RX11 110 "GuessFerryModel" "history" "[I" ∈ wsX11_undo := (List.mem_cons_of_mem _ (List.mem_append_left _ (List.mem_of_getElem? (i := 2) rfl)))
theorem LX11_undo_230 : Cond.fieldLink RX11 230 "GuessFerryModel" "undos" "I" ∈ wsX11_undo := (List.mem_cons_of_mem _ (List.mem_append_left _ (List.mem_of_getElem? (i := 0) rfl)))
theorem LX11_undo_98 : Cond.fieldLink RX11 98 "GuessFerryModel" "now" "[I" ∈ wsX11_undo := (List.mem_cons_of_mem _ (List.mem_append_left _ (List.mem_of_getElem? (i := 1) rfl)))
theorem inX11_undo_X11 : ∀ w ∈ u_ws RX11 TX11 58, w ∈ wsX11_undo := fun _ h => List.mem_cons_of_mem _ (List.mem_append_right _ h)
set_option maxHeartbeats 4000000 in
set_option maxRecDepth 100000 in
theorem br_undo_21 {l : Launch} {dC : Nat → ClassId} {dI : Nat → Nat → Nat} {cB cI cJ cZ cS : ClassId} {h : Nat} {a : Nat → Nat} {as : List Value} {r : Int32} {s' : RS} {k21 : RS → Int32 → Option (Int32 × RS)} (hk21 : ∀ (s : RS) (x1 : Int32), k21 s x1 = some (r, s') → BlkI l yX11_undo wsX11_undo ({ frames := 0, cells := 0, slots := 0, locals := 0 }) cX11_undo 2 (some .boolean) (dC, dI) (tysA cB cI cJ cZ cS) as 21 (mwS cB cI cJ cZ h a s) [(0, .ref h), (1, .int x1)] [] (fun x u => x = r ∧ u = (mwS cB cI cJ cZ h a s'))) (s : RS) (x1 : Int32) (hB : r_undo_21 k21 s x1 = some (r, s')) : BlkI l yX11_undo wsX11_undo ({ frames := 0, cells := 0, slots := 0, locals := 0 }) cX11_undo 2 (some .boolean) (dC, dI) (tysA cB cI cJ cZ cS) as 21 (mwS cB cI cJ cZ h a s) [(0, .ref h), (1, .int x1)] [] (fun x u => x = r ∧ u = (mwS cB cI cJ cZ h a s')) := by
  intro p e s0 m below meth c A E H locs ls hP hD hS hl
  obtain ⟨C, hr, hlocks, hA, hK, hN⟩ := id E
  obtain ⟨hx, hb, hml, hown, hts⟩ := id C
  unfold r_undo_21 at hB
  refine lv_iload_n hx hb dX11_undo_21 rfl (lv_at hl 1 rfl) ?_
  refine lv_bipush (v := 29) hx hb dX11_undo_22 (by decide) ?_
  refine lv_icmp_ge (tgt := 53) hx hb dX11_undo_24 (by decide) (fun c1 => ?_) (fun c1 => ?_)
  · have hB := if_p hB c1
    refine lv_iconst (v := 1) hx hb dX11_undo_53 (by decide) ?_
    exact q_zret C hr hlocks (Or.inr rfl) hK hP hD hS (Nat.le_of_ble_eq_true rfl) (Nat.le_of_ble_eq_true rfl) dX11_undo_54 (by cases hB; exact ⟨rfl, rfl⟩)
  · have hB := if_n hB c1
    refine lv_aload_n hx hb dX11_undo_27 rfl (lv_at hl 0 rfl) ?_
    refine q_get (v := .ref (a 43)) C inX11_undo_X11 hK hP 0 rfl rfl 43 (by decide) rfl LX11_undo_98 rfl dX11_undo_28 ?_
    refine lv_iload_n hx hb dX11_undo_31 rfl (lv_at hl 1 rfl) ?_
    refine lv_aload_n hx hb dX11_undo_32 rfl (lv_at hl 0 rfl) ?_
    refine q_get (v := .ref (a 49)) C inX11_undo_X11 hK hP 0 rfl rfl 49 (by decide) rfl LX11_undo_110 rfl dX11_undo_33 ?_
    refine lv_bipush (v := 29) hx hb dX11_undo_36 (by decide) ?_
    refine lv_aload_n hx hb dX11_undo_38 rfl (lv_at hl 0 rfl) ?_
    refine q_get (v := .int (s.v 48)) C inX11_undo_X11 hK hP 0 rfl rfl 48 (by decide) rfl LX11_undo_230 rfl dX11_undo_39 ?_
    refine lv_imul hx hb dX11_undo_42 ?_
    refine lv_iload_n hx hb dX11_undo_43 rfl (lv_at hl 1 rfl) ?_
    refine lv_iadd hx hb dX11_undo_44 ?_
    obtain ⟨g2, hB⟩ := guard_inv hB
    refine q_iald (x := (s.f 49 (Int32.toNatClampNeg ((29 * (s.v 48)) + x1)))) C hK hP 31 1 rfl rfl (vpb_in g2) dX11_undo_45 rfl ?_
    obtain ⟨g3, hB⟩ := guard_inv hB
    obtain ⟨s4, hs5, hB⟩ := letS_inv hB
    refine q_iast (f2 := (upd (s.f 43) (Int32.toNatClampNeg x1) (s.f 49 (Int32.toNatClampNeg ((29 * (s.v 48)) + x1))))) (w2 := (mwS cB cI cJ cZ h a s4)) C hK hP hD hS 27 1 rfl rfl (vpb_in g3) dX11_undo_46 rfl (mwS_f43 hs5) (fun H locs hP hD hS => ?_)
    refine lv_iinc (v := (x1 + 1)) (lv' := [(1, .int (x1 + 1)), (0, .ref h)]) hx hb dX11_undo_47 hl (k := 1) rfl (rfl) (by decide) rfl (fun ls hl => ?_)
    refine lv_goto (tgt := 21) hx hb dX11_undo_50 (by decide) ?_
    exact hk21 _ _ hB p e s0 m below meth c A E H locs ls hP hD hS (lv_sub hl [1, 0] rfl)
theorem br_undo_21L {l : Launch} {dC : Nat → ClassId} {dI : Nat → Nat → Nat} {cB cI cJ cZ cS : ClassId} {h : Nat} {a : Nat → Nat} {as : List Value} {r : Int32} {s' : RS} : ∀ (n : Nat) (s : RS) (x1 : Int32), r_undo_21L n s x1 = some (r, s') → BlkI l yX11_undo wsX11_undo ({ frames := 0, cells := 0, slots := 0, locals := 0 }) cX11_undo 2 (some .boolean) (dC, dI) (tysA cB cI cJ cZ cS) as 21 (mwS cB cI cJ cZ h a s) [(0, .ref h), (1, .int x1)] [] (fun x u => x = r ∧ u = (mwS cB cI cJ cZ h a s')) := by
  intro n
  induction n with
  | zero => intro s x1 hB; exact none_ne hB
  | succ n ih => intro s x1 hB; exact br_undo_21 ih _ _ hB
set_option maxHeartbeats 4000000 in
set_option maxRecDepth 100000 in
theorem br_undo {l : Launch} {dC : Nat → ClassId} {dI : Nat → Nat → Nat} {cB cI cJ cZ cS : ClassId} {h : Nat} {a : Nat → Nat} {as : List Value} {r : Int32} {s' : RS} (s : RS) (hB : r_undo s = some (r, s')) : BlkI l yX11_undo wsX11_undo ({ frames := 0, cells := 0, slots := 0, locals := 0 }) cX11_undo 2 (some .boolean) (dC, dI) (tysA cB cI cJ cZ cS) as 0 (mwS cB cI cJ cZ h a s) [(0, .ref h)] [] (fun x u => x = r ∧ u = (mwS cB cI cJ cZ h a s')) := by
  intro p e s0 m below meth c A E H locs ls hP hD hS hl
  obtain ⟨C, hr, hlocks, hA, hK, hN⟩ := id E
  obtain ⟨hx, hb, hml, hown, hts⟩ := id C
  unfold r_undo at hB
  refine lv_aload_n hx hb dX11_undo_0 rfl (lv_at hl 0 rfl) ?_
  refine q_get (v := .int (s.v 48)) C inX11_undo_X11 hK hP 0 rfl rfl 48 (by decide) rfl LX11_undo_230 rfl dX11_undo_1 ?_
  refine lv_if_ne (tgt := 9) hx hb dX11_undo_4 (by decide) (fun c1 => ?_) (fun c1 => ?_)
  · have hB := if_n hB c1
    refine lv_aload_n hx hb dX11_undo_9 rfl (lv_at hl 0 rfl) ?_
    refine lv_dup hx hb dX11_undo_10 rfl ?_
    refine q_get (v := .int (s.v 48)) C inX11_undo_X11 hK hP 0 rfl rfl 48 (by decide) rfl LX11_undo_230 rfl dX11_undo_11 ?_
    refine lv_iconst (v := 1) hx hb dX11_undo_14 (by decide) ?_
    refine lv_isub hx hb dX11_undo_15 ?_
    obtain ⟨s2, hs3, hB⟩ := letS_inv hB
    refine q_put (ty := .int) (w2 := (mwS cB cI cJ cZ h a s2)) tyX11 tyX11_ok nmX11 C inX11_undo_X11 hK hP hD hS 0 rfl rfl 48 (by decide) rfl LX11_undo_230 rfl (by decide +kernel) (rfl) rfl (Nat.le_of_ble_eq_true rfl) dX11_undo_16 (mwS_v48 hs3) (fun H locs hP hD hS => ?_)
    refine lv_iconst (v := 0) hx hb dX11_undo_19 (by decide) ?_
    refine lv_istore_n (lv' := [(1, .int 0), (0, .ref h)]) hx hb dX11_undo_20 rfl hl (by decide) rfl (fun ls hl => ?_)
    exact br_undo_21L fu _ _ hB p e s0 m below meth c A E H locs ls hP hD hS (lv_sub hl [1, 0] rfl)
  · have hB := if_p hB c1
    refine lv_iconst (v := 0) hx hb dX11_undo_7 (by decide) ?_
    exact q_zret C hr hlocks (Or.inl rfl) hK hP hD hS (Nat.le_of_ble_eq_true rfl) (Nat.le_of_ble_eq_true rfl) dX11_undo_8 (by cases hB; exact ⟨rfl, rfl⟩)
theorem cr_undo {l : Launch} {dC : Nat → ClassId} {dI : Nat → Nat → Nat} {cB cI cJ cZ cS : ClassId} {h : Nat} {a : Nat → Nat} {r : Int32} {s' : RS} {s : RS} (hB : r_undo s = some (r, s')) : CI l yX11_undo wsX11_undo ({ frames := 0, cells := 0, slots := 0, locals := 0 }) (dC, dI) (tysA cB cI cJ cZ cS) (mwS cB cI cJ cZ h a s) [.ref h] (fun x u => x = r ∧ u = (mwS cB cI cJ cZ h a s')) :=
  CI_of (cc := cX11_undo) (maxL := 2) (ret := (some .boolean)) (by decide) rfl (Nat.le_of_ble_eq_true rfl) (br_undo _ hB)
theorem LX11_casesNow_215 : Cond.fieldLink RX11 215 "GuessFerryModel" "live" "I" ∈ wsX11_casesNow := (List.mem_cons_of_mem _ (List.mem_append_left _ (List.mem_append_left _ (List.mem_of_getElem? (i := 1) rfl))))
theorem LX11_casesNow_40 : Cond.fieldLink RX11 40 "GuessFerryModel" "waves" "[I" ∈ wsX11_casesNow := (List.mem_cons_of_mem _ (List.mem_append_left _ (List.mem_append_left _ (List.mem_of_getElem? (i := 0) rfl))))
theorem inX11_casesNow_X11 : ∀ w ∈ u_ws RX11 TX11 58, w ∈ wsX11_casesNow := fun w h => (List.mem_cons_of_mem _ (List.mem_append_right _ h))
set_option maxHeartbeats 4000000 in
set_option maxRecDepth 100000 in
theorem br_casesNow_4 {l : Launch} {dC : Nat → ClassId} {dI : Nat → Nat → Nat} {cB cI cJ cZ cS : ClassId} {h : Nat} {a : Nat → Nat} {as : List Value} {r : Int32} {s' : RS} {k4 : RS → Int32 → Int32 → Option (Int32 × RS)} (hk4 : ∀ (s : RS) (x1 : Int32) (x2 : Int32), k4 s x1 x2 = some (r, s') → BlkI l yX11_casesNow wsX11_casesNow ({ frames := 2, cells := 0, slots := 0, locals := 45 }) cX11_casesNow 3 (some .int) (dC, dI) (tysA cB cI cJ cZ cS) as 4 (mwS cB cI cJ cZ h a s) [(0, .ref h), (1, .int x1), (2, .int x2)] [] (fun x u => x = r ∧ u = (mwS cB cI cJ cZ h a s'))) (s : RS) (x1 : Int32) (x2 : Int32) (hB : r_casesNow_4 k4 s x1 x2 = some (r, s')) : BlkI l yX11_casesNow wsX11_casesNow ({ frames := 2, cells := 0, slots := 0, locals := 45 }) cX11_casesNow 3 (some .int) (dC, dI) (tysA cB cI cJ cZ cS) as 4 (mwS cB cI cJ cZ h a s) [(0, .ref h), (1, .int x1), (2, .int x2)] [] (fun x u => x = r ∧ u = (mwS cB cI cJ cZ h a s')) := by
  intro p e s0 m below meth c A E H locs ls hP hD hS hl
  obtain ⟨C, hr, hlocks, hA, hK, hN⟩ := id E
  obtain ⟨hx, hb, hml, hown, hts⟩ := id C
  unfold r_casesNow_4 at hB
  refine lv_iload_n hx hb dX11_casesNow_4 rfl (lv_at hl 2 rfl) ?_
  refine lv_aload_n hx hb dX11_casesNow_5 rfl (lv_at hl 0 rfl) ?_
  refine q_get (v := .ref (a 20)) C inX11_casesNow_X11 hK hP 0 rfl rfl 20 (by decide) rfl LX11_casesNow_40 rfl dX11_casesNow_6 ?_
  refine lv_aload_n hx hb dX11_casesNow_9 rfl (lv_at hl 0 rfl) ?_
  refine q_get (v := .int (s.v 18)) C inX11_casesNow_X11 hK hP 0 rfl rfl 18 (by decide) rfl LX11_casesNow_215 rfl dX11_casesNow_10 ?_
  obtain ⟨g1, hB⟩ := guard_inv hB
  refine q_iald (x := (s.f 20 (Int32.toNatClampNeg (s.v 18)))) C hK hP 8 1 rfl rfl (vpb_in g1) dX11_casesNow_13 rfl ?_
  refine lv_icmp_ge (tgt := 34) hx hb dX11_casesNow_14 (by decide) (fun c2 => ?_) (fun c2 => ?_)
  · have hB := if_p hB c2
    refine lv_iload_n hx hb dX11_casesNow_34 rfl (lv_at hl 1 rfl) ?_
    exact q_iret C hr hlocks hK hP hD hS (Nat.le_of_ble_eq_true rfl) (Nat.le_of_ble_eq_true rfl) dX11_casesNow_35 (by cases hB; exact ⟨rfl, rfl⟩)
  · have hB := if_n hB c2
    refine lv_iload_n hx hb dX11_casesNow_17 rfl (lv_at hl 1 rfl) ?_
    refine lv_aload_n hx hb dX11_casesNow_18 rfl (lv_at hl 0 rfl) ?_
    refine lv_iload_n hx hb dX11_casesNow_19 rfl (lv_at hl 2 rfl) ?_
    obtain ⟨q_, s3, hc, hB⟩ := bindI_inv hB
    refine q_goiF (va_runV (As := [.int x2]) (rest := [.int x1]) C (cr_mayAt hc _) (cwV 1 hts gX11_casesNow_X11_mayAt rfl rfl rfl (by decide +kernel) ⟨Nat.le_of_ble_eq_true rfl, Nat.le_of_ble_eq_true rfl⟩) (q_preV hK hP (ci := 11) (q0 := 0) rfl rfl rfl (q_preF hN hK hP hD)) rfl rfl hl.1 rfl (lv_room (Nat.le_of_ble_eq_true rfl)) dX11_casesNow_20 ⟨Nat.le_of_ble_eq_true rfl, Nat.le_of_ble_eq_true rfl⟩) hD hS hA (fun r4 w1 H locs hw hP hD hS => ?_)
    obtain ⟨hq_, hw⟩ := hw; subst hw; subst hq_
    obtain ⟨q_, hc, hB⟩ := bindP_inv hB
    refine q_goi0 (va_runS (As := [.int r4]) (rest := [.int x1]) C (cr_bits hc _) (va_cwS 1 hts gX11_casesNow_X11_bits rfl rfl rfl (by decide +kernel) ⟨Nat.le_of_ble_eq_true rfl, Nat.le_of_ble_eq_true rfl⟩) (q_pre0 hN hK) rfl rfl hl.1 rfl (lv_room (Nat.le_of_ble_eq_true rfl)) dX11_casesNow_23 ⟨Nat.le_of_ble_eq_true rfl, Nat.le_of_ble_eq_true rfl⟩) hP hD hS hA (fun r5 w1 H locs hw hP hS => ?_)
    subst hw
    refine lv_imul hx hb dX11_casesNow_26 ?_
    refine lv_istore_n (lv' := [(1, .int (x1 * r5)), (0, .ref h), (2, .int x2)]) hx hb dX11_casesNow_27 rfl hl (by decide) rfl (fun ls hl => ?_)
    refine lv_iinc (v := (x2 + 1)) (lv' := [(2, .int (x2 + 1)), (1, .int (x1 * r5)), (0, .ref h)]) hx hb dX11_casesNow_28 hl (k := 2) rfl (rfl) (by decide) rfl (fun ls hl => ?_)
    refine lv_goto (tgt := 4) hx hb dX11_casesNow_31 (by decide) ?_
    exact hk4 _ _ _ hB p e s0 m below meth c A E H locs ls hP hD hS (lv_sub hl [2, 1, 0] rfl)
theorem br_casesNow_4L {l : Launch} {dC : Nat → ClassId} {dI : Nat → Nat → Nat} {cB cI cJ cZ cS : ClassId} {h : Nat} {a : Nat → Nat} {as : List Value} {r : Int32} {s' : RS} : ∀ (n : Nat) (s : RS) (x1 : Int32) (x2 : Int32), r_casesNow_4L n s x1 x2 = some (r, s') → BlkI l yX11_casesNow wsX11_casesNow ({ frames := 2, cells := 0, slots := 0, locals := 45 }) cX11_casesNow 3 (some .int) (dC, dI) (tysA cB cI cJ cZ cS) as 4 (mwS cB cI cJ cZ h a s) [(0, .ref h), (1, .int x1), (2, .int x2)] [] (fun x u => x = r ∧ u = (mwS cB cI cJ cZ h a s')) := by
  intro n
  induction n with
  | zero => intro s x1 x2 hB; exact none_ne hB
  | succ n ih => intro s x1 x2 hB; exact br_casesNow_4 ih _ _ _ hB
set_option maxHeartbeats 4000000 in
set_option maxRecDepth 100000 in
theorem br_casesNow {l : Launch} {dC : Nat → ClassId} {dI : Nat → Nat → Nat} {cB cI cJ cZ cS : ClassId} {h : Nat} {a : Nat → Nat} {as : List Value} {r : Int32} {s' : RS} (s : RS) (hB : r_casesNow s = some (r, s')) : BlkI l yX11_casesNow wsX11_casesNow ({ frames := 2, cells := 0, slots := 0, locals := 45 }) cX11_casesNow 3 (some .int) (dC, dI) (tysA cB cI cJ cZ cS) as 0 (mwS cB cI cJ cZ h a s) [(0, .ref h)] [] (fun x u => x = r ∧ u = (mwS cB cI cJ cZ h a s')) := by
  intro p e s0 m below meth c A E H locs ls hP hD hS hl
  obtain ⟨C, hr, hlocks, hA, hK, hN⟩ := id E
  obtain ⟨hx, hb, hml, hown, hts⟩ := id C
  unfold r_casesNow at hB
  refine lv_iconst (v := 1) hx hb dX11_casesNow_0 (by decide) ?_
  refine lv_istore_n (lv' := [(1, .int 1), (0, .ref h)]) hx hb dX11_casesNow_1 rfl hl (by decide) rfl (fun ls hl => ?_)
  refine lv_iconst (v := 0) hx hb dX11_casesNow_2 (by decide) ?_
  refine lv_istore_n (lv' := [(2, .int 0), (1, .int 1), (0, .ref h)]) hx hb dX11_casesNow_3 rfl hl (by decide) rfl (fun ls hl => ?_)
  exact br_casesNow_4L fu _ _ _ hB p e s0 m below meth c A E H locs ls hP hD hS (lv_sub hl [2, 1, 0] rfl)
theorem cr_casesNow {l : Launch} {dC : Nat → ClassId} {dI : Nat → Nat → Nat} {cB cI cJ cZ cS : ClassId} {h : Nat} {a : Nat → Nat} {r : Int32} {s' : RS} {s : RS} (hB : r_casesNow s = some (r, s')) : CI l yX11_casesNow wsX11_casesNow ({ frames := 2, cells := 0, slots := 0, locals := 45 }) (dC, dI) (tysA cB cI cJ cZ cS) (mwS cB cI cJ cZ h a s) [.ref h] (fun x u => x = r ∧ u = (mwS cB cI cJ cZ h a s')) :=
  CI_of (cc := cX11_casesNow) (maxL := 3) (ret := (some .int)) (by decide) rfl (Nat.le_of_ble_eq_true rfl) (br_casesNow _ hB)
set_option maxHeartbeats 4000000 in
set_option maxRecDepth 100000 in
theorem br_cases {l : Launch} {dC : Nat → ClassId} {dI : Nat → Nat → Nat} {cB cI cJ cZ cS : ClassId} {h : Nat} {a : Nat → Nat} {as : List Value} {r : Int32} {s' : RS} (s : RS) (hB : r_cases s = some (r, s')) : BlkI l yX11_cases wsX11_cases ({ frames := 3, cells := 0, slots := 0, locals := 67 }) cX11_cases 1 (some .int) (dC, dI) (tysA cB cI cJ cZ cS) as 0 (mwS cB cI cJ cZ h a s) [(0, .ref h)] [] (fun x u => x = r ∧ u = (mwS cB cI cJ cZ h a s')) := by
  intro p e s0 m below meth c A E H locs ls hP hD hS hl
  obtain ⟨C, hr, hlocks, hA, hK, hN⟩ := id E
  obtain ⟨hx, hb, hml, hown, hts⟩ := id C
  unfold r_cases at hB
  refine lv_aload_n hx hb dX11_cases_0 rfl (lv_at hl 0 rfl) ?_
  obtain ⟨s1, hc, hB⟩ := bindP_inv hB
  refine q_govF (va_runV (As := []) (rest := []) C (cr_copies hc _) (cwV 0 hts gX11_cases_X11_copies rfl rfl rfl (by decide +kernel) ⟨Nat.le_of_ble_eq_true rfl, Nat.le_of_ble_eq_true rfl⟩) (q_preV hK hP (ci := 11) (q0 := 0) rfl rfl rfl (q_preF hN hK hP hD)) rfl rfl hl.1 rfl (lv_room (Nat.le_of_ble_eq_true rfl)) dX11_cases_1 ⟨Nat.le_of_ble_eq_true rfl, Nat.le_of_ble_eq_true rfl⟩) hD hS hA (fun w1 H locs hw hP hD hS => ?_)
  subst hw
  refine lv_aload_n hx hb dX11_cases_4 rfl (lv_at hl 0 rfl) ?_
  obtain ⟨q_, s2, hc, hB⟩ := bindI_inv hB
  refine q_goiF (va_runV (As := []) (rest := []) C (cr_casesNow hc _) (cwV 0 hts gX11_cases_X11_casesNow rfl rfl rfl (by decide +kernel) ⟨Nat.le_of_ble_eq_true rfl, Nat.le_of_ble_eq_true rfl⟩) (q_preV hK hP (ci := 11) (q0 := 0) rfl rfl rfl (q_preF hN hK hP hD)) rfl rfl hl.1 rfl (lv_room (Nat.le_of_ble_eq_true rfl)) dX11_cases_5 ⟨Nat.le_of_ble_eq_true rfl, Nat.le_of_ble_eq_true rfl⟩) hD hS hA (fun r3 w1 H locs hw hP hD hS => ?_)
  obtain ⟨hq_, hw⟩ := hw; subst hw; subst hq_
  exact q_iret C hr hlocks hK hP hD hS (Nat.le_of_ble_eq_true rfl) (Nat.le_of_ble_eq_true rfl) dX11_cases_8 (by cases hB; exact ⟨rfl, rfl⟩)
theorem cr_cases {l : Launch} {dC : Nat → ClassId} {dI : Nat → Nat → Nat} {cB cI cJ cZ cS : ClassId} {h : Nat} {a : Nat → Nat} {r : Int32} {s' : RS} {s : RS} (hB : r_cases s = some (r, s')) : CI l yX11_cases wsX11_cases ({ frames := 3, cells := 0, slots := 0, locals := 67 }) (dC, dI) (tysA cB cI cJ cZ cS) (mwS cB cI cJ cZ h a s) [.ref h] (fun x u => x = r ∧ u = (mwS cB cI cJ cZ h a s')) :=
  CI_of (cc := cX11_cases) (maxL := 1) (ret := (some .int)) (by decide) rfl (Nat.le_of_ble_eq_true rfl) (br_cases _ hB)
set_option maxHeartbeats 4000000 in
set_option maxRecDepth 100000 in
theorem br_mayBe {l : Launch} {dC : Nat → ClassId} {dI : Nat → Nat → Nat} {cB cI cJ cZ cS : ClassId} {h : Nat} {a : Nat → Nat} {as : List Value} {r : Int32} {s' : RS} (s : RS) (x1 : Int32) (x2 : Int32) (hB : r_mayBe s x1 x2 = some (r, s')) : BlkI l yX11_mayBe wsX11_mayBe ({ frames := 2, cells := 0, slots := 0, locals := 45 }) cX11_mayBe 3 (some .boolean) (dC, dI) (tysA cB cI cJ cZ cS) as 0 (mwS cB cI cJ cZ h a s) [(0, .ref h), (1, .int x1), (2, .int x2)] [] (fun x u => x = r ∧ u = (mwS cB cI cJ cZ h a s')) := by
  intro p e s0 m below meth c A E H locs ls hP hD hS hl
  obtain ⟨C, hr, hlocks, hA, hK, hN⟩ := id E
  obtain ⟨hx, hb, hml, hown, hts⟩ := id C
  unfold r_mayBe at hB
  refine lv_aload_n hx hb dX11_mayBe_0 rfl (lv_at hl 0 rfl) ?_
  refine lv_iload_n hx hb dX11_mayBe_1 rfl (lv_at hl 1 rfl) ?_
  obtain ⟨q_, s1, hc, hB⟩ := bindI_inv hB
  refine q_goiF (va_runV (As := [.int x1]) (rest := []) C (cr_mayAt hc _) (cwV 1 hts gX11_mayBe_X11_mayAt rfl rfl rfl (by decide +kernel) ⟨Nat.le_of_ble_eq_true rfl, Nat.le_of_ble_eq_true rfl⟩) (q_preV hK hP (ci := 11) (q0 := 0) rfl rfl rfl (q_preF hN hK hP hD)) rfl rfl hl.1 rfl (lv_room (Nat.le_of_ble_eq_true rfl)) dX11_mayBe_2 ⟨Nat.le_of_ble_eq_true rfl, Nat.le_of_ble_eq_true rfl⟩) hD hS hA (fun r2 w1 H locs hw hP hD hS => ?_)
  obtain ⟨hq_, hw⟩ := hw; subst hw; subst hq_
  refine lv_iload_n hx hb dX11_mayBe_5 rfl (lv_at hl 2 rfl) ?_
  refine lv_ishr hx hb dX11_mayBe_6 ?_
  refine lv_iconst (v := 1) hx hb dX11_mayBe_7 (by decide) ?_
  refine lv_iand hx hb dX11_mayBe_8 ?_
  refine lv_iconst (v := 1) hx hb dX11_mayBe_9 (by decide) ?_
  refine lv_icmp_ne (tgt := 17) hx hb dX11_mayBe_10 (by decide) (fun c3 => ?_) (fun c3 => ?_)
  · have hB := if_n hB c3
    refine lv_iconst (v := 0) hx hb dX11_mayBe_17 (by decide) ?_
    exact q_zret C hr hlocks (Or.inl rfl) hK hP hD hS (Nat.le_of_ble_eq_true rfl) (Nat.le_of_ble_eq_true rfl) dX11_mayBe_18 (by cases hB; exact ⟨rfl, rfl⟩)
  · have hB := if_p hB c3
    refine lv_iconst (v := 1) hx hb dX11_mayBe_13 (by decide) ?_
    refine lv_goto (tgt := 18) hx hb dX11_mayBe_14 (by decide) ?_
    exact q_zret C hr hlocks (Or.inr rfl) hK hP hD hS (Nat.le_of_ble_eq_true rfl) (Nat.le_of_ble_eq_true rfl) dX11_mayBe_18 (by cases hB; exact ⟨rfl, rfl⟩)
theorem cr_mayBe {l : Launch} {dC : Nat → ClassId} {dI : Nat → Nat → Nat} {cB cI cJ cZ cS : ClassId} {h : Nat} {a : Nat → Nat} {r : Int32} {s' : RS} {s : RS} {x1 : Int32} {x2 : Int32} (hB : r_mayBe s x1 x2 = some (r, s')) : CI l yX11_mayBe wsX11_mayBe ({ frames := 2, cells := 0, slots := 0, locals := 45 }) (dC, dI) (tysA cB cI cJ cZ cS) (mwS cB cI cJ cZ h a s) [.ref h, .int x1, .int x2] (fun x u => x = r ∧ u = (mwS cB cI cJ cZ h a s')) :=
  CI_of (cc := cX11_mayBe) (maxL := 3) (ret := (some .boolean)) (by decide) rfl (Nat.le_of_ble_eq_true rfl) (br_mayBe _ _ _ hB)
theorem LX11_chanceOf_215 : Cond.fieldLink RX11 215 "GuessFerryModel" "live" "I" ∈ wsX11_chanceOf := (List.mem_cons_of_mem _ (List.mem_append_left _ (List.mem_append_left _ (List.mem_of_getElem? (i := 1) rfl))))
theorem LX11_chanceOf_40 : Cond.fieldLink RX11 40 "GuessFerryModel" "waves" "[I" ∈ wsX11_chanceOf := (List.mem_cons_of_mem _ (List.mem_append_left _ (List.mem_append_left _ (List.mem_of_getElem? (i := 0) rfl))))
theorem inX11_chanceOf_X11 : ∀ w ∈ u_ws RX11 TX11 58, w ∈ wsX11_chanceOf := fun w h => (List.mem_cons_of_mem _ (List.mem_append_right _ h))
set_option maxHeartbeats 4000000 in
set_option maxRecDepth 100000 in
theorem br_chanceOf_47 {l : Launch} {dC : Nat → ClassId} {dI : Nat → Nat → Nat} {cB cI cJ cZ cS : ClassId} {h : Nat} {a : Nat → Nat} {as : List Value} {r : Int32} {s' : RS} {k4 : RS → Int32 → Int32 → Int32 → Option (Int32 × RS)} (hk4 : ∀ (s : RS) (x1 : Int32) (x2 : Int32) (x3 : Int32), k4 s x1 x2 x3 = some (r, s') → BlkI l yX11_chanceOf wsX11_chanceOf ({ frames := 3, cells := 0, slots := 0, locals := 67 }) cX11_chanceOf 5 (some .int) (dC, dI) (tysA cB cI cJ cZ cS) as 4 (mwS cB cI cJ cZ h a s) [(0, .ref h), (1, .int x1), (2, .int x2), (3, .int x3)] [] (fun x u => x = r ∧ u = (mwS cB cI cJ cZ h a s'))) (s : RS) (x1 : Int32) (x3 : Int32) (t0 : Int32) (t1 : Int32) (hB : r_chanceOf_47 k4 s x1 x3 t0 t1 = some (r, s')) : BlkI l yX11_chanceOf wsX11_chanceOf ({ frames := 3, cells := 0, slots := 0, locals := 67 }) cX11_chanceOf 5 (some .int) (dC, dI) (tysA cB cI cJ cZ cS) as 47 (mwS cB cI cJ cZ h a s) [(0, .ref h), (1, .int x1), (3, .int x3)] [.int t0, .int t1] (fun x u => x = r ∧ u = (mwS cB cI cJ cZ h a s')) := by
  intro p e s0 m below meth c A E H locs ls hP hD hS hl
  obtain ⟨C, hr, hlocks, hA, hK, hN⟩ := id E
  obtain ⟨hx, hb, hml, hown, hts⟩ := id C
  unfold r_chanceOf_47 at hB
  refine lv_imul hx hb dX11_chanceOf_47 ?_
  refine lv_istore_n (lv' := [(2, .int (t1 * t0)), (0, .ref h), (1, .int x1), (3, .int x3)]) hx hb dX11_chanceOf_48 rfl hl (by decide) rfl (fun ls hl => ?_)
  refine lv_iinc (v := (x3 + 1)) (lv' := [(3, .int (x3 + 1)), (2, .int (t1 * t0)), (0, .ref h), (1, .int x1)]) hx hb dX11_chanceOf_49 hl (k := 3) rfl (rfl) (by decide) rfl (fun ls hl => ?_)
  refine lv_goto (tgt := 4) hx hb dX11_chanceOf_52 (by decide) ?_
  exact hk4 _ _ _ _ hB p e s0 m below meth c A E H locs ls hP hD hS (lv_sub hl [2, 3, 1, 0] rfl)
set_option maxHeartbeats 4000000 in
set_option maxRecDepth 100000 in
theorem br_chanceOf_4 {l : Launch} {dC : Nat → ClassId} {dI : Nat → Nat → Nat} {cB cI cJ cZ cS : ClassId} {h : Nat} {a : Nat → Nat} {as : List Value} {r : Int32} {s' : RS} {k4 : RS → Int32 → Int32 → Int32 → Option (Int32 × RS)} (hk4 : ∀ (s : RS) (x1 : Int32) (x2 : Int32) (x3 : Int32), k4 s x1 x2 x3 = some (r, s') → BlkI l yX11_chanceOf wsX11_chanceOf ({ frames := 3, cells := 0, slots := 0, locals := 67 }) cX11_chanceOf 5 (some .int) (dC, dI) (tysA cB cI cJ cZ cS) as 4 (mwS cB cI cJ cZ h a s) [(0, .ref h), (1, .int x1), (2, .int x2), (3, .int x3)] [] (fun x u => x = r ∧ u = (mwS cB cI cJ cZ h a s'))) (s : RS) (x1 : Int32) (x2 : Int32) (x3 : Int32) (hB : r_chanceOf_4 k4 s x1 x2 x3 = some (r, s')) : BlkI l yX11_chanceOf wsX11_chanceOf ({ frames := 3, cells := 0, slots := 0, locals := 67 }) cX11_chanceOf 5 (some .int) (dC, dI) (tysA cB cI cJ cZ cS) as 4 (mwS cB cI cJ cZ h a s) [(0, .ref h), (1, .int x1), (2, .int x2), (3, .int x3)] [] (fun x u => x = r ∧ u = (mwS cB cI cJ cZ h a s')) := by
  intro p e s0 m below meth c A E H locs ls hP hD hS hl
  obtain ⟨C, hr, hlocks, hA, hK, hN⟩ := id E
  obtain ⟨hx, hb, hml, hown, hts⟩ := id C
  unfold r_chanceOf_4 at hB
  refine lv_iload_n hx hb dX11_chanceOf_4 rfl (lv_at hl 3 rfl) ?_
  refine lv_aload_n hx hb dX11_chanceOf_5 rfl (lv_at hl 0 rfl) ?_
  refine q_get (v := .ref (a 20)) C inX11_chanceOf_X11 hK hP 0 rfl rfl 20 (by decide) rfl LX11_chanceOf_40 rfl dX11_chanceOf_6 ?_
  refine lv_aload_n hx hb dX11_chanceOf_9 rfl (lv_at hl 0 rfl) ?_
  refine q_get (v := .int (s.v 18)) C inX11_chanceOf_X11 hK hP 0 rfl rfl 18 (by decide) rfl LX11_chanceOf_215 rfl dX11_chanceOf_10 ?_
  obtain ⟨g1, hB⟩ := guard_inv hB
  refine q_iald (x := (s.f 20 (Int32.toNatClampNeg (s.v 18)))) C hK hP 8 1 rfl rfl (vpb_in g1) dX11_chanceOf_13 rfl ?_
  refine lv_icmp_ge (tgt := 55) hx hb dX11_chanceOf_14 (by decide) (fun c2 => ?_) (fun c2 => ?_)
  · have hB := if_p hB c2
    refine lv_iload_n hx hb dX11_chanceOf_55 rfl (lv_at hl 2 rfl) ?_
    exact q_iret C hr hlocks hK hP hD hS (Nat.le_of_ble_eq_true rfl) (Nat.le_of_ble_eq_true rfl) dX11_chanceOf_56 (by cases hB; exact ⟨rfl, rfl⟩)
  · have hB := if_n hB c2
    refine lv_aload_n hx hb dX11_chanceOf_17 rfl (lv_at hl 0 rfl) ?_
    refine lv_iload_n hx hb dX11_chanceOf_18 rfl (lv_at hl 1 rfl) ?_
    refine lv_iload_n hx hb dX11_chanceOf_19 rfl (lv_at hl 3 rfl) ?_
    obtain ⟨q_, s3, hc, hB⟩ := bindI_inv hB
    refine q_goiF (va_runV (As := [.int x1, .int x3]) (rest := []) C (cr_thingAt hc _) (cwV 2 hts gX11_chanceOf_X11_thingAt rfl rfl rfl (by decide +kernel) ⟨Nat.le_of_ble_eq_true rfl, Nat.le_of_ble_eq_true rfl⟩) (q_preV hK hP (ci := 11) (q0 := 0) rfl rfl rfl (q_preF hN hK hP hD)) rfl rfl hl.1 rfl (lv_room (Nat.le_of_ble_eq_true rfl)) dX11_chanceOf_20 ⟨Nat.le_of_ble_eq_true rfl, Nat.le_of_ble_eq_true rfl⟩) hD hS hA (fun r4 w1 H locs hw hP hD hS => ?_)
    obtain ⟨hq_, hw⟩ := hw; subst hw; subst hq_
    refine lv_istore (lv' := [(4, .int r4), (0, .ref h), (1, .int x1), (2, .int x2), (3, .int x3)]) hx hb dX11_chanceOf_23 hl (by decide) rfl (fun ls hl => ?_)
    refine lv_iload_n hx hb dX11_chanceOf_25 rfl (lv_at hl 3 rfl) ?_
    refine lv_aload_n hx hb dX11_chanceOf_26 rfl (lv_at hl 1 rfl) ?_
    refine lv_iload_n hx hb dX11_chanceOf_27 rfl (lv_at hl 4 rfl) ?_
    refine lv_iload hx hb dX11_chanceOf_28 (lv_at hl 0 rfl) ?_
    obtain ⟨q_, s5, hc, hB⟩ := bindI_inv hB
    refine q_goiF (va_runV (As := [.int x3, .int r4]) (rest := [.int x2]) C (cr_mayBe hc _) (cwV 2 hts gX11_chanceOf_X11_mayBe rfl rfl rfl (by decide +kernel) ⟨Nat.le_of_ble_eq_true rfl, Nat.le_of_ble_eq_true rfl⟩) (q_preV hK hP (ci := 11) (q0 := 0) rfl rfl rfl (q_preF hN hK hP hD)) rfl rfl hl.1 rfl (lv_room (Nat.le_of_ble_eq_true rfl)) dX11_chanceOf_30 ⟨Nat.le_of_ble_eq_true rfl, Nat.le_of_ble_eq_true rfl⟩) hD hS hA (fun r6 w1 H locs hw hP hD hS => ?_)
    obtain ⟨hq_, hw⟩ := hw; subst hw; subst hq_
    refine lv_if_eq (tgt := 46) hx hb dX11_chanceOf_33 (by decide) (fun c7 => ?_) (fun c7 => ?_)
    · have hB := if_p hB c7
      refine lv_iconst (v := 0) hx hb dX11_chanceOf_46 (by decide) ?_
      exact br_chanceOf_47 (hk4) _ _ _ _ _ hB p e s0 m below meth c A E H locs ls hP hD hS (lv_sub hl [1, 2, 4] rfl)
    · have hB := if_n hB c7
      refine lv_aload_n hx hb dX11_chanceOf_36 rfl (lv_at hl 1 rfl) ?_
      refine lv_iload_n hx hb dX11_chanceOf_37 rfl (lv_at hl 4 rfl) ?_
      refine lv_iload hx hb dX11_chanceOf_38 (lv_at hl 0 rfl) ?_
      obtain ⟨q_, s8, hc, hB⟩ := bindI_inv hB
      refine q_goiF (va_runV (As := [.int x3, .int r4]) (rest := [.int x2]) C (cr_oddsAt hc _) (cwV 2 hts gX11_chanceOf_X11_oddsAt rfl rfl rfl (by decide +kernel) ⟨Nat.le_of_ble_eq_true rfl, Nat.le_of_ble_eq_true rfl⟩) (q_preV hK hP (ci := 11) (q0 := 0) rfl rfl rfl (q_preF hN hK hP hD)) rfl rfl hl.1 rfl (lv_room (Nat.le_of_ble_eq_true rfl)) dX11_chanceOf_40 ⟨Nat.le_of_ble_eq_true rfl, Nat.le_of_ble_eq_true rfl⟩) hD hS hA (fun r9 w1 H locs hw hP hD hS => ?_)
      obtain ⟨hq_, hw⟩ := hw; subst hw; subst hq_
      refine lv_goto (tgt := 47) hx hb dX11_chanceOf_43 (by decide) ?_
      exact br_chanceOf_47 (hk4) _ _ _ _ _ hB p e s0 m below meth c A E H locs ls hP hD hS (lv_sub hl [1, 2, 4] rfl)
theorem br_chanceOf_4L {l : Launch} {dC : Nat → ClassId} {dI : Nat → Nat → Nat} {cB cI cJ cZ cS : ClassId} {h : Nat} {a : Nat → Nat} {as : List Value} {r : Int32} {s' : RS} : ∀ (n : Nat) (s : RS) (x1 : Int32) (x2 : Int32) (x3 : Int32), r_chanceOf_4L n s x1 x2 x3 = some (r, s') → BlkI l yX11_chanceOf wsX11_chanceOf ({ frames := 3, cells := 0, slots := 0, locals := 67 }) cX11_chanceOf 5 (some .int) (dC, dI) (tysA cB cI cJ cZ cS) as 4 (mwS cB cI cJ cZ h a s) [(0, .ref h), (1, .int x1), (2, .int x2), (3, .int x3)] [] (fun x u => x = r ∧ u = (mwS cB cI cJ cZ h a s')) := by
  intro n
  induction n with
  | zero => intro s x1 x2 x3 hB; exact none_ne hB
  | succ n ih => intro s x1 x2 x3 hB; exact br_chanceOf_4 ih _ _ _ _ hB
set_option maxHeartbeats 4000000 in
set_option maxRecDepth 100000 in
theorem br_chanceOf {l : Launch} {dC : Nat → ClassId} {dI : Nat → Nat → Nat} {cB cI cJ cZ cS : ClassId} {h : Nat} {a : Nat → Nat} {as : List Value} {r : Int32} {s' : RS} (s : RS) (x1 : Int32) (hB : r_chanceOf s x1 = some (r, s')) : BlkI l yX11_chanceOf wsX11_chanceOf ({ frames := 3, cells := 0, slots := 0, locals := 67 }) cX11_chanceOf 5 (some .int) (dC, dI) (tysA cB cI cJ cZ cS) as 0 (mwS cB cI cJ cZ h a s) [(0, .ref h), (1, .int x1)] [] (fun x u => x = r ∧ u = (mwS cB cI cJ cZ h a s')) := by
  intro p e s0 m below meth c A E H locs ls hP hD hS hl
  obtain ⟨C, hr, hlocks, hA, hK, hN⟩ := id E
  obtain ⟨hx, hb, hml, hown, hts⟩ := id C
  unfold r_chanceOf at hB
  refine lv_iconst (v := 1) hx hb dX11_chanceOf_0 (by decide) ?_
  refine lv_istore_n (lv' := [(2, .int 1), (0, .ref h), (1, .int x1)]) hx hb dX11_chanceOf_1 rfl hl (by decide) rfl (fun ls hl => ?_)
  refine lv_iconst (v := 0) hx hb dX11_chanceOf_2 (by decide) ?_
  refine lv_istore_n (lv' := [(3, .int 0), (2, .int 1), (0, .ref h), (1, .int x1)]) hx hb dX11_chanceOf_3 rfl hl (by decide) rfl (fun ls hl => ?_)
  exact br_chanceOf_4L fu _ _ _ _ hB p e s0 m below meth c A E H locs ls hP hD hS (lv_sub hl [2, 3, 1, 0] rfl)
theorem cr_chanceOf {l : Launch} {dC : Nat → ClassId} {dI : Nat → Nat → Nat} {cB cI cJ cZ cS : ClassId} {h : Nat} {a : Nat → Nat} {r : Int32} {s' : RS} {s : RS} {x1 : Int32} (hB : r_chanceOf s x1 = some (r, s')) : CI l yX11_chanceOf wsX11_chanceOf ({ frames := 3, cells := 0, slots := 0, locals := 67 }) (dC, dI) (tysA cB cI cJ cZ cS) (mwS cB cI cJ cZ h a s) [.ref h, .int x1] (fun x u => x = r ∧ u = (mwS cB cI cJ cZ h a s')) :=
  CI_of (cc := cX11_chanceOf) (maxL := 5) (ret := (some .int)) (by decide) rfl (Nat.le_of_ble_eq_true rfl) (br_chanceOf _ _ hB)
theorem LX11_isCase_215 : Cond.fieldLink RX11 215 "GuessFerryModel" "live" "I" ∈ wsX11_isCase := (List.mem_cons_of_mem _ (List.mem_append_left _ (List.mem_append_left _ (List.mem_of_getElem? (i := 1) rfl))))
theorem LX11_isCase_40 : Cond.fieldLink RX11 40 "GuessFerryModel" "waves" "[I" ∈ wsX11_isCase := (List.mem_cons_of_mem _ (List.mem_append_left _ (List.mem_append_left _ (List.mem_of_getElem? (i := 0) rfl))))
theorem inX11_isCase_X11 : ∀ w ∈ u_ws RX11 TX11 58, w ∈ wsX11_isCase := fun w h => (List.mem_cons_of_mem _ (List.mem_append_right _ h))
set_option maxHeartbeats 4000000 in
set_option maxRecDepth 100000 in
theorem br_isCase_2 {l : Launch} {dC : Nat → ClassId} {dI : Nat → Nat → Nat} {cB cI cJ cZ cS : ClassId} {h : Nat} {a : Nat → Nat} {as : List Value} {r : Int32} {s' : RS} {k2 : RS → Int32 → Int32 → Option (Int32 × RS)} (hk2 : ∀ (s : RS) (x1 : Int32) (x2 : Int32), k2 s x1 x2 = some (r, s') → BlkI l yX11_isCase wsX11_isCase ({ frames := 3, cells := 0, slots := 0, locals := 67 }) cX11_isCase 3 (some .boolean) (dC, dI) (tysA cB cI cJ cZ cS) as 2 (mwS cB cI cJ cZ h a s) [(0, .ref h), (1, .int x1), (2, .int x2)] [] (fun x u => x = r ∧ u = (mwS cB cI cJ cZ h a s'))) (s : RS) (x1 : Int32) (x2 : Int32) (hB : r_isCase_2 k2 s x1 x2 = some (r, s')) : BlkI l yX11_isCase wsX11_isCase ({ frames := 3, cells := 0, slots := 0, locals := 67 }) cX11_isCase 3 (some .boolean) (dC, dI) (tysA cB cI cJ cZ cS) as 2 (mwS cB cI cJ cZ h a s) [(0, .ref h), (1, .int x1), (2, .int x2)] [] (fun x u => x = r ∧ u = (mwS cB cI cJ cZ h a s')) := by
  intro p e s0 m below meth c A E H locs ls hP hD hS hl
  obtain ⟨C, hr, hlocks, hA, hK, hN⟩ := id E
  obtain ⟨hx, hb, hml, hown, hts⟩ := id C
  unfold r_isCase_2 at hB
  refine lv_iload_n hx hb dX11_isCase_2 rfl (lv_at hl 2 rfl) ?_
  refine lv_aload_n hx hb dX11_isCase_3 rfl (lv_at hl 0 rfl) ?_
  refine q_get (v := .ref (a 20)) C inX11_isCase_X11 hK hP 0 rfl rfl 20 (by decide) rfl LX11_isCase_40 rfl dX11_isCase_4 ?_
  refine lv_aload_n hx hb dX11_isCase_7 rfl (lv_at hl 0 rfl) ?_
  refine q_get (v := .int (s.v 18)) C inX11_isCase_X11 hK hP 0 rfl rfl 18 (by decide) rfl LX11_isCase_215 rfl dX11_isCase_8 ?_
  obtain ⟨g1, hB⟩ := guard_inv hB
  refine q_iald (x := (s.f 20 (Int32.toNatClampNeg (s.v 18)))) C hK hP 8 1 rfl rfl (vpb_in g1) dX11_isCase_11 rfl ?_
  refine lv_icmp_ge (tgt := 37) hx hb dX11_isCase_12 (by decide) (fun c2 => ?_) (fun c2 => ?_)
  · have hB := if_p hB c2
    refine lv_iconst (v := 1) hx hb dX11_isCase_37 (by decide) ?_
    exact q_zret C hr hlocks (Or.inr rfl) hK hP hD hS (Nat.le_of_ble_eq_true rfl) (Nat.le_of_ble_eq_true rfl) dX11_isCase_38 (by cases hB; exact ⟨rfl, rfl⟩)
  · have hB := if_n hB c2
    refine lv_aload_n hx hb dX11_isCase_15 rfl (lv_at hl 0 rfl) ?_
    refine lv_iload_n hx hb dX11_isCase_16 rfl (lv_at hl 2 rfl) ?_
    refine lv_aload_n hx hb dX11_isCase_17 rfl (lv_at hl 0 rfl) ?_
    refine lv_iload_n hx hb dX11_isCase_18 rfl (lv_at hl 1 rfl) ?_
    refine lv_iload_n hx hb dX11_isCase_19 rfl (lv_at hl 2 rfl) ?_
    obtain ⟨q_, s3, hc, hB⟩ := bindI_inv hB
    refine q_goiF (va_runV (As := [.int x1, .int x2]) (rest := [.int x2, .ref h]) C (cr_thingAt hc _) (cwV 2 hts gX11_isCase_X11_thingAt rfl rfl rfl (by decide +kernel) ⟨Nat.le_of_ble_eq_true rfl, Nat.le_of_ble_eq_true rfl⟩) (q_preV hK hP (ci := 11) (q0 := 0) rfl rfl rfl (q_preF hN hK hP hD)) rfl rfl hl.1 rfl (lv_room (Nat.le_of_ble_eq_true rfl)) dX11_isCase_20 ⟨Nat.le_of_ble_eq_true rfl, Nat.le_of_ble_eq_true rfl⟩) hD hS hA (fun r4 w1 H locs hw hP hD hS => ?_)
    obtain ⟨hq_, hw⟩ := hw; subst hw; subst hq_
    obtain ⟨q_, s5, hc, hB⟩ := bindI_inv hB
    refine q_goiF (va_runV (As := [.int x2, .int r4]) (rest := []) C (cr_mayBe hc _) (cwV 2 hts gX11_isCase_X11_mayBe rfl rfl rfl (by decide +kernel) ⟨Nat.le_of_ble_eq_true rfl, Nat.le_of_ble_eq_true rfl⟩) (q_preV hK hP (ci := 11) (q0 := 0) rfl rfl rfl (q_preF hN hK hP hD)) rfl rfl hl.1 rfl (lv_room (Nat.le_of_ble_eq_true rfl)) dX11_isCase_23 ⟨Nat.le_of_ble_eq_true rfl, Nat.le_of_ble_eq_true rfl⟩) hD hS hA (fun r6 w1 H locs hw hP hD hS => ?_)
    obtain ⟨hq_, hw⟩ := hw; subst hw; subst hq_
    refine lv_if_ne (tgt := 31) hx hb dX11_isCase_26 (by decide) (fun c7 => ?_) (fun c7 => ?_)
    · have hB := if_n hB c7
      refine lv_iinc (v := (x2 + 1)) (lv' := [(2, .int (x2 + 1)), (0, .ref h), (1, .int x1)]) hx hb dX11_isCase_31 hl (k := 2) rfl (rfl) (by decide) rfl (fun ls hl => ?_)
      refine lv_goto (tgt := 2) hx hb dX11_isCase_34 (by decide) ?_
      exact hk2 _ _ _ hB p e s0 m below meth c A E H locs ls hP hD hS (lv_sub hl [1, 2, 0] rfl)
    · have hB := if_p hB c7
      refine lv_iconst (v := 0) hx hb dX11_isCase_29 (by decide) ?_
      exact q_zret C hr hlocks (Or.inl rfl) hK hP hD hS (Nat.le_of_ble_eq_true rfl) (Nat.le_of_ble_eq_true rfl) dX11_isCase_30 (by cases hB; exact ⟨rfl, rfl⟩)
theorem br_isCase_2L {l : Launch} {dC : Nat → ClassId} {dI : Nat → Nat → Nat} {cB cI cJ cZ cS : ClassId} {h : Nat} {a : Nat → Nat} {as : List Value} {r : Int32} {s' : RS} : ∀ (n : Nat) (s : RS) (x1 : Int32) (x2 : Int32), r_isCase_2L n s x1 x2 = some (r, s') → BlkI l yX11_isCase wsX11_isCase ({ frames := 3, cells := 0, slots := 0, locals := 67 }) cX11_isCase 3 (some .boolean) (dC, dI) (tysA cB cI cJ cZ cS) as 2 (mwS cB cI cJ cZ h a s) [(0, .ref h), (1, .int x1), (2, .int x2)] [] (fun x u => x = r ∧ u = (mwS cB cI cJ cZ h a s')) := by
  intro n
  induction n with
  | zero => intro s x1 x2 hB; exact none_ne hB
  | succ n ih => intro s x1 x2 hB; exact br_isCase_2 ih _ _ _ hB
set_option maxHeartbeats 4000000 in
set_option maxRecDepth 100000 in
theorem br_isCase {l : Launch} {dC : Nat → ClassId} {dI : Nat → Nat → Nat} {cB cI cJ cZ cS : ClassId} {h : Nat} {a : Nat → Nat} {as : List Value} {r : Int32} {s' : RS} (s : RS) (x1 : Int32) (hB : r_isCase s x1 = some (r, s')) : BlkI l yX11_isCase wsX11_isCase ({ frames := 3, cells := 0, slots := 0, locals := 67 }) cX11_isCase 3 (some .boolean) (dC, dI) (tysA cB cI cJ cZ cS) as 0 (mwS cB cI cJ cZ h a s) [(0, .ref h), (1, .int x1)] [] (fun x u => x = r ∧ u = (mwS cB cI cJ cZ h a s')) := by
  intro p e s0 m below meth c A E H locs ls hP hD hS hl
  obtain ⟨C, hr, hlocks, hA, hK, hN⟩ := id E
  obtain ⟨hx, hb, hml, hown, hts⟩ := id C
  unfold r_isCase at hB
  refine lv_iconst (v := 0) hx hb dX11_isCase_0 (by decide) ?_
  refine lv_istore_n (lv' := [(2, .int 0), (0, .ref h), (1, .int x1)]) hx hb dX11_isCase_1 rfl hl (by decide) rfl (fun ls hl => ?_)
  exact br_isCase_2L fu _ _ _ hB p e s0 m below meth c A E H locs ls hP hD hS (lv_sub hl [1, 2, 0] rfl)
theorem cr_isCase {l : Launch} {dC : Nat → ClassId} {dI : Nat → Nat → Nat} {cB cI cJ cZ cS : ClassId} {h : Nat} {a : Nat → Nat} {r : Int32} {s' : RS} {s : RS} {x1 : Int32} (hB : r_isCase s x1 = some (r, s')) : CI l yX11_isCase wsX11_isCase ({ frames := 3, cells := 0, slots := 0, locals := 67 }) (dC, dI) (tysA cB cI cJ cZ cS) (mwS cB cI cJ cZ h a s) [.ref h, .int x1] (fun x u => x = r ∧ u = (mwS cB cI cJ cZ h a s')) :=
  CI_of (cc := cX11_isCase) (maxL := 3) (ret := (some .boolean)) (by decide) rfl (Nat.le_of_ble_eq_true rfl) (br_isCase _ _ hB)
set_option maxHeartbeats 4000000 in
set_option maxRecDepth 100000 in
theorem br_chance {l : Launch} {dC : Nat → ClassId} {dI : Nat → Nat → Nat} {cB cI cJ cZ cS : ClassId} {h : Nat} {a : Nat → Nat} {as : List Value} {r : Int32} {s' : RS} (s : RS) (x1 : Int32) (hB : r_chance s x1 = some (r, s')) : BlkI l yX11_chance wsX11_chance ({ frames := 4, cells := 0, slots := 0, locals := 91 }) cX11_chance 2 (some .int) (dC, dI) (tysA cB cI cJ cZ cS) as 0 (mwS cB cI cJ cZ h a s) [(0, .ref h), (1, .int x1)] [] (fun x u => x = r ∧ u = (mwS cB cI cJ cZ h a s')) := by
  intro p e s0 m below meth c A E H locs ls hP hD hS hl
  obtain ⟨C, hr, hlocks, hA, hK, hN⟩ := id E
  obtain ⟨hx, hb, hml, hown, hts⟩ := id C
  unfold r_chance at hB
  refine lv_aload_n hx hb dX11_chance_0 rfl (lv_at hl 0 rfl) ?_
  refine lv_iload_n hx hb dX11_chance_1 rfl (lv_at hl 1 rfl) ?_
  obtain ⟨q_, s1, hc, hB⟩ := bindI_inv hB
  refine q_goiF (va_runV (As := [.int x1]) (rest := []) C (cr_isGuess hc _) (cwV 1 hts gX11_chance_X11_isGuess rfl rfl rfl (by decide +kernel) ⟨Nat.le_of_ble_eq_true rfl, Nat.le_of_ble_eq_true rfl⟩) (q_preV hK hP (ci := 11) (q0 := 0) rfl rfl rfl (q_preF hN hK hP hD)) rfl rfl hl.1 rfl (lv_room (Nat.le_of_ble_eq_true rfl)) dX11_chance_2 ⟨Nat.le_of_ble_eq_true rfl, Nat.le_of_ble_eq_true rfl⟩) hD hS hA (fun r2 w1 H locs hw hP hD hS => ?_)
  obtain ⟨hq_, hw⟩ := hw; subst hw; subst hq_
  refine lv_if_ne (tgt := 10) hx hb dX11_chance_5 (by decide) (fun c3 => ?_) (fun c3 => ?_)
  · have hB := if_n hB c3
    refine lv_aload_n hx hb dX11_chance_10 rfl (lv_at hl 0 rfl) ?_
    obtain ⟨s4, hc, hB⟩ := bindP_inv hB
    refine q_govF (va_runV (As := []) (rest := []) C (cr_copies hc _) (cwV 0 hts gX11_chance_X11_copies rfl rfl rfl (by decide +kernel) ⟨Nat.le_of_ble_eq_true rfl, Nat.le_of_ble_eq_true rfl⟩) (q_preV hK hP (ci := 11) (q0 := 0) rfl rfl rfl (q_preF hN hK hP hD)) rfl rfl hl.1 rfl (lv_room (Nat.le_of_ble_eq_true rfl)) dX11_chance_11 ⟨Nat.le_of_ble_eq_true rfl, Nat.le_of_ble_eq_true rfl⟩) hD hS hA (fun w1 H locs hw hP hD hS => ?_)
    subst hw
    refine lv_aload_n hx hb dX11_chance_14 rfl (lv_at hl 0 rfl) ?_
    refine lv_iload_n hx hb dX11_chance_15 rfl (lv_at hl 1 rfl) ?_
    obtain ⟨q_, s5, hc, hB⟩ := bindI_inv hB
    refine q_goiF (va_runV (As := [.int x1]) (rest := []) C (cr_chanceOf hc _) (cwV 1 hts gX11_chance_X11_chanceOf rfl rfl rfl (by decide +kernel) ⟨Nat.le_of_ble_eq_true rfl, Nat.le_of_ble_eq_true rfl⟩) (q_preV hK hP (ci := 11) (q0 := 0) rfl rfl rfl (q_preF hN hK hP hD)) rfl rfl hl.1 rfl (lv_room (Nat.le_of_ble_eq_true rfl)) dX11_chance_16 ⟨Nat.le_of_ble_eq_true rfl, Nat.le_of_ble_eq_true rfl⟩) hD hS hA (fun r6 w1 H locs hw hP hD hS => ?_)
    obtain ⟨hq_, hw⟩ := hw; subst hw; subst hq_
    exact q_iret C hr hlocks hK hP hD hS (Nat.le_of_ble_eq_true rfl) (Nat.le_of_ble_eq_true rfl) dX11_chance_19 (by cases hB; exact ⟨rfl, rfl⟩)
  · have hB := if_p hB c3
    refine lv_iconst (v := (-1)) hx hb dX11_chance_8 (by decide) ?_
    exact q_iret C hr hlocks hK hP hD hS (Nat.le_of_ble_eq_true rfl) (Nat.le_of_ble_eq_true rfl) dX11_chance_9 (by cases hB; exact ⟨rfl, rfl⟩)
theorem cr_chance {l : Launch} {dC : Nat → ClassId} {dI : Nat → Nat → Nat} {cB cI cJ cZ cS : ClassId} {h : Nat} {a : Nat → Nat} {r : Int32} {s' : RS} {s : RS} {x1 : Int32} (hB : r_chance s x1 = some (r, s')) : CI l yX11_chance wsX11_chance ({ frames := 4, cells := 0, slots := 0, locals := 91 }) (dC, dI) (tysA cB cI cJ cZ cS) (mwS cB cI cJ cZ h a s) [.ref h, .int x1] (fun x u => x = r ∧ u = (mwS cB cI cJ cZ h a s')) :=
  CI_of (cc := cX11_chance) (maxL := 2) (ret := (some .int)) (by decide) rfl (Nat.le_of_ble_eq_true rfl) (br_chance _ _ hB)
set_option maxHeartbeats 4000000 in
set_option maxRecDepth 100000 in
theorem br_sumAt_28 {l : Launch} {dC : Nat → ClassId} {dI : Nat → Nat → Nat} {cB cI cJ cZ cS : ClassId} {h : Nat} {a : Nat → Nat} {as : List Value} {r : Int32} {s' : RS} {k4 : RS → Int32 → Int32 → Int32 → Option (Int32 × RS)} (hk4 : ∀ (s : RS) (x1 : Int32) (x2 : Int32) (x3 : Int32), k4 s x1 x2 x3 = some (r, s') → BlkI l yX11_sumAt wsX11_sumAt ({ frames := 3, cells := 0, slots := 0, locals := 67 }) cX11_sumAt 4 (some .int) (dC, dI) (tysA cB cI cJ cZ cS) as 4 (mwS cB cI cJ cZ h a s) [(0, .ref h), (1, .int x1), (2, .int x2), (3, .int x3)] [] (fun x u => x = r ∧ u = (mwS cB cI cJ cZ h a s'))) (s : RS) (x1 : Int32) (x2 : Int32) (x3 : Int32) (hB : r_sumAt_28 k4 s x1 x2 x3 = some (r, s')) : BlkI l yX11_sumAt wsX11_sumAt ({ frames := 3, cells := 0, slots := 0, locals := 67 }) cX11_sumAt 4 (some .int) (dC, dI) (tysA cB cI cJ cZ cS) as 28 (mwS cB cI cJ cZ h a s) [(0, .ref h), (1, .int x1), (2, .int x2), (3, .int x3)] [] (fun x u => x = r ∧ u = (mwS cB cI cJ cZ h a s')) := by
  intro p e s0 m below meth c A E H locs ls hP hD hS hl
  obtain ⟨C, hr, hlocks, hA, hK, hN⟩ := id E
  obtain ⟨hx, hb, hml, hown, hts⟩ := id C
  unfold r_sumAt_28 at hB
  refine lv_iinc (v := (x3 + 1)) (lv' := [(3, .int (x3 + 1)), (0, .ref h), (1, .int x1), (2, .int x2)]) hx hb dX11_sumAt_28 hl (k := 3) rfl (rfl) (by decide) rfl (fun ls hl => ?_)
  refine lv_goto (tgt := 4) hx hb dX11_sumAt_31 (by decide) ?_
  exact hk4 _ _ _ _ hB p e s0 m below meth c A E H locs ls hP hD hS (lv_sub hl [1, 2, 3, 0] rfl)
set_option maxHeartbeats 4000000 in
set_option maxRecDepth 100000 in
theorem br_sumAt_4 {l : Launch} {dC : Nat → ClassId} {dI : Nat → Nat → Nat} {cB cI cJ cZ cS : ClassId} {h : Nat} {a : Nat → Nat} {as : List Value} {r : Int32} {s' : RS} {k4 : RS → Int32 → Int32 → Int32 → Option (Int32 × RS)} (hk4 : ∀ (s : RS) (x1 : Int32) (x2 : Int32) (x3 : Int32), k4 s x1 x2 x3 = some (r, s') → BlkI l yX11_sumAt wsX11_sumAt ({ frames := 3, cells := 0, slots := 0, locals := 67 }) cX11_sumAt 4 (some .int) (dC, dI) (tysA cB cI cJ cZ cS) as 4 (mwS cB cI cJ cZ h a s) [(0, .ref h), (1, .int x1), (2, .int x2), (3, .int x3)] [] (fun x u => x = r ∧ u = (mwS cB cI cJ cZ h a s'))) (s : RS) (x1 : Int32) (x2 : Int32) (x3 : Int32) (hB : r_sumAt_4 k4 s x1 x2 x3 = some (r, s')) : BlkI l yX11_sumAt wsX11_sumAt ({ frames := 3, cells := 0, slots := 0, locals := 67 }) cX11_sumAt 4 (some .int) (dC, dI) (tysA cB cI cJ cZ cS) as 4 (mwS cB cI cJ cZ h a s) [(0, .ref h), (1, .int x1), (2, .int x2), (3, .int x3)] [] (fun x u => x = r ∧ u = (mwS cB cI cJ cZ h a s')) := by
  intro p e s0 m below meth c A E H locs ls hP hD hS hl
  obtain ⟨C, hr, hlocks, hA, hK, hN⟩ := id E
  obtain ⟨hx, hb, hml, hown, hts⟩ := id C
  unfold r_sumAt_4 at hB
  refine lv_iload_n hx hb dX11_sumAt_4 rfl (lv_at hl 3 rfl) ?_
  refine lv_bipush (v := 6) hx hb dX11_sumAt_5 (by decide) ?_
  refine lv_icmp_ge (tgt := 34) hx hb dX11_sumAt_7 (by decide) (fun c1 => ?_) (fun c1 => ?_)
  · have hB := if_p hB c1
    refine lv_iload_n hx hb dX11_sumAt_34 rfl (lv_at hl 2 rfl) ?_
    exact q_iret C hr hlocks hK hP hD hS (Nat.le_of_ble_eq_true rfl) (Nat.le_of_ble_eq_true rfl) dX11_sumAt_35 (by cases hB; exact ⟨rfl, rfl⟩)
  · have hB := if_n hB c1
    refine lv_aload_n hx hb dX11_sumAt_10 rfl (lv_at hl 0 rfl) ?_
    refine lv_iload_n hx hb dX11_sumAt_11 rfl (lv_at hl 1 rfl) ?_
    refine lv_iload_n hx hb dX11_sumAt_12 rfl (lv_at hl 3 rfl) ?_
    obtain ⟨q_, s2, hc, hB⟩ := bindI_inv hB
    refine q_goiF (va_runV (As := [.int x1, .int x3]) (rest := []) C (cr_mayBe hc _) (cwV 2 hts gX11_sumAt_X11_mayBe rfl rfl rfl (by decide +kernel) ⟨Nat.le_of_ble_eq_true rfl, Nat.le_of_ble_eq_true rfl⟩) (q_preV hK hP (ci := 11) (q0 := 0) rfl rfl rfl (q_preF hN hK hP hD)) rfl rfl hl.1 rfl (lv_room (Nat.le_of_ble_eq_true rfl)) dX11_sumAt_13 ⟨Nat.le_of_ble_eq_true rfl, Nat.le_of_ble_eq_true rfl⟩) hD hS hA (fun r3 w1 H locs hw hP hD hS => ?_)
    obtain ⟨hq_, hw⟩ := hw; subst hw; subst hq_
    refine lv_if_eq (tgt := 28) hx hb dX11_sumAt_16 (by decide) (fun c4 => ?_) (fun c4 => ?_)
    · have hB := if_p hB c4
      exact br_sumAt_28 (hk4) _ _ _ _ hB p e s0 m below meth c A E H locs ls hP hD hS (lv_sub hl [0, 1, 2, 3] rfl)
    · have hB := if_n hB c4
      refine lv_iload_n hx hb dX11_sumAt_19 rfl (lv_at hl 2 rfl) ?_
      refine lv_aload_n hx hb dX11_sumAt_20 rfl (lv_at hl 0 rfl) ?_
      refine lv_iload_n hx hb dX11_sumAt_21 rfl (lv_at hl 1 rfl) ?_
      refine lv_iload_n hx hb dX11_sumAt_22 rfl (lv_at hl 3 rfl) ?_
      obtain ⟨q_, s5, hc, hB⟩ := bindI_inv hB
      refine q_goiF (va_runV (As := [.int x1, .int x3]) (rest := [.int x2]) C (cr_oddsAt hc _) (cwV 2 hts gX11_sumAt_X11_oddsAt rfl rfl rfl (by decide +kernel) ⟨Nat.le_of_ble_eq_true rfl, Nat.le_of_ble_eq_true rfl⟩) (q_preV hK hP (ci := 11) (q0 := 0) rfl rfl rfl (q_preF hN hK hP hD)) rfl rfl hl.1 rfl (lv_room (Nat.le_of_ble_eq_true rfl)) dX11_sumAt_23 ⟨Nat.le_of_ble_eq_true rfl, Nat.le_of_ble_eq_true rfl⟩) hD hS hA (fun r6 w1 H locs hw hP hD hS => ?_)
      obtain ⟨hq_, hw⟩ := hw; subst hw; subst hq_
      refine lv_iadd hx hb dX11_sumAt_26 ?_
      refine lv_istore_n (lv' := [(2, .int (x2 + r6)), (0, .ref h), (1, .int x1), (3, .int x3)]) hx hb dX11_sumAt_27 rfl hl (by decide) rfl (fun ls hl => ?_)
      exact br_sumAt_28 (hk4) _ _ _ _ hB p e s0 m below meth c A E H locs ls hP hD hS (lv_sub hl [1, 2, 0, 3] rfl)
theorem br_sumAt_4L {l : Launch} {dC : Nat → ClassId} {dI : Nat → Nat → Nat} {cB cI cJ cZ cS : ClassId} {h : Nat} {a : Nat → Nat} {as : List Value} {r : Int32} {s' : RS} : ∀ (n : Nat) (s : RS) (x1 : Int32) (x2 : Int32) (x3 : Int32), r_sumAt_4L n s x1 x2 x3 = some (r, s') → BlkI l yX11_sumAt wsX11_sumAt ({ frames := 3, cells := 0, slots := 0, locals := 67 }) cX11_sumAt 4 (some .int) (dC, dI) (tysA cB cI cJ cZ cS) as 4 (mwS cB cI cJ cZ h a s) [(0, .ref h), (1, .int x1), (2, .int x2), (3, .int x3)] [] (fun x u => x = r ∧ u = (mwS cB cI cJ cZ h a s')) := by
  intro n
  induction n with
  | zero => intro s x1 x2 x3 hB; exact none_ne hB
  | succ n ih => intro s x1 x2 x3 hB; exact br_sumAt_4 ih _ _ _ _ hB
set_option maxHeartbeats 4000000 in
set_option maxRecDepth 100000 in
theorem br_sumAt {l : Launch} {dC : Nat → ClassId} {dI : Nat → Nat → Nat} {cB cI cJ cZ cS : ClassId} {h : Nat} {a : Nat → Nat} {as : List Value} {r : Int32} {s' : RS} (s : RS) (x1 : Int32) (hB : r_sumAt s x1 = some (r, s')) : BlkI l yX11_sumAt wsX11_sumAt ({ frames := 3, cells := 0, slots := 0, locals := 67 }) cX11_sumAt 4 (some .int) (dC, dI) (tysA cB cI cJ cZ cS) as 0 (mwS cB cI cJ cZ h a s) [(0, .ref h), (1, .int x1)] [] (fun x u => x = r ∧ u = (mwS cB cI cJ cZ h a s')) := by
  intro p e s0 m below meth c A E H locs ls hP hD hS hl
  obtain ⟨C, hr, hlocks, hA, hK, hN⟩ := id E
  obtain ⟨hx, hb, hml, hown, hts⟩ := id C
  unfold r_sumAt at hB
  refine lv_iconst (v := 0) hx hb dX11_sumAt_0 (by decide) ?_
  refine lv_istore_n (lv' := [(2, .int 0), (0, .ref h), (1, .int x1)]) hx hb dX11_sumAt_1 rfl hl (by decide) rfl (fun ls hl => ?_)
  refine lv_iconst (v := 0) hx hb dX11_sumAt_2 (by decide) ?_
  refine lv_istore_n (lv' := [(3, .int 0), (2, .int 0), (0, .ref h), (1, .int x1)]) hx hb dX11_sumAt_3 rfl hl (by decide) rfl (fun ls hl => ?_)
  exact br_sumAt_4L fu _ _ _ _ hB p e s0 m below meth c A E H locs ls hP hD hS (lv_sub hl [2, 3, 1, 0] rfl)
theorem cr_sumAt {l : Launch} {dC : Nat → ClassId} {dI : Nat → Nat → Nat} {cB cI cJ cZ cS : ClassId} {h : Nat} {a : Nat → Nat} {r : Int32} {s' : RS} {s : RS} {x1 : Int32} (hB : r_sumAt s x1 = some (r, s')) : CI l yX11_sumAt wsX11_sumAt ({ frames := 3, cells := 0, slots := 0, locals := 67 }) (dC, dI) (tysA cB cI cJ cZ cS) (mwS cB cI cJ cZ h a s) [.ref h, .int x1] (fun x u => x = r ∧ u = (mwS cB cI cJ cZ h a s')) :=
  CI_of (cc := cX11_sumAt) (maxL := 4) (ret := (some .int)) (by decide) rfl (Nat.le_of_ble_eq_true rfl) (br_sumAt _ _ hB)
theorem LX11_all_215 : Cond.fieldLink RX11 215 "GuessFerryModel" "live" "I" ∈ wsX11_all := (List.mem_cons_of_mem _ (List.mem_append_left _ (List.mem_append_left _ (List.mem_of_getElem? (i := 1) rfl))))
theorem LX11_all_40 : Cond.fieldLink RX11 40 "GuessFerryModel" "waves" "[I" ∈ wsX11_all := (List.mem_cons_of_mem _ (List.mem_append_left _ (List.mem_append_left _ (List.mem_of_getElem? (i := 0) rfl))))
theorem inX11_all_X11 : ∀ w ∈ u_ws RX11 TX11 58, w ∈ wsX11_all := fun w h => (List.mem_cons_of_mem _ (List.mem_append_right _ h))
set_option maxHeartbeats 4000000 in
set_option maxRecDepth 100000 in
theorem br_all_8 {l : Launch} {dC : Nat → ClassId} {dI : Nat → Nat → Nat} {cB cI cJ cZ cS : ClassId} {h : Nat} {a : Nat → Nat} {as : List Value} {r : Int32} {s' : RS} {k8 : RS → Int32 → Int32 → Option (Int32 × RS)} (hk8 : ∀ (s : RS) (x1 : Int32) (x2 : Int32), k8 s x1 x2 = some (r, s') → BlkI l yX11_all wsX11_all ({ frames := 4, cells := 0, slots := 0, locals := 90 }) cX11_all 3 (some .int) (dC, dI) (tysA cB cI cJ cZ cS) as 8 (mwS cB cI cJ cZ h a s) [(0, .ref h), (1, .int x1), (2, .int x2)] [] (fun x u => x = r ∧ u = (mwS cB cI cJ cZ h a s'))) (s : RS) (x1 : Int32) (x2 : Int32) (hB : r_all_8 k8 s x1 x2 = some (r, s')) : BlkI l yX11_all wsX11_all ({ frames := 4, cells := 0, slots := 0, locals := 90 }) cX11_all 3 (some .int) (dC, dI) (tysA cB cI cJ cZ cS) as 8 (mwS cB cI cJ cZ h a s) [(0, .ref h), (1, .int x1), (2, .int x2)] [] (fun x u => x = r ∧ u = (mwS cB cI cJ cZ h a s')) := by
  intro p e s0 m below meth c A E H locs ls hP hD hS hl
  obtain ⟨C, hr, hlocks, hA, hK, hN⟩ := id E
  obtain ⟨hx, hb, hml, hown, hts⟩ := id C
  unfold r_all_8 at hB
  refine lv_iload_n hx hb dX11_all_8 rfl (lv_at hl 2 rfl) ?_
  refine lv_aload_n hx hb dX11_all_9 rfl (lv_at hl 0 rfl) ?_
  refine q_get (v := .ref (a 20)) C inX11_all_X11 hK hP 0 rfl rfl 20 (by decide) rfl LX11_all_40 rfl dX11_all_10 ?_
  refine lv_aload_n hx hb dX11_all_13 rfl (lv_at hl 0 rfl) ?_
  refine q_get (v := .int (s.v 18)) C inX11_all_X11 hK hP 0 rfl rfl 18 (by decide) rfl LX11_all_215 rfl dX11_all_14 ?_
  obtain ⟨g1, hB⟩ := guard_inv hB
  refine q_iald (x := (s.f 20 (Int32.toNatClampNeg (s.v 18)))) C hK hP 8 1 rfl rfl (vpb_in g1) dX11_all_17 rfl ?_
  refine lv_icmp_ge (tgt := 35) hx hb dX11_all_18 (by decide) (fun c2 => ?_) (fun c2 => ?_)
  · have hB := if_p hB c2
    refine lv_iload_n hx hb dX11_all_35 rfl (lv_at hl 1 rfl) ?_
    exact q_iret C hr hlocks hK hP hD hS (Nat.le_of_ble_eq_true rfl) (Nat.le_of_ble_eq_true rfl) dX11_all_36 (by cases hB; exact ⟨rfl, rfl⟩)
  · have hB := if_n hB c2
    refine lv_iload_n hx hb dX11_all_21 rfl (lv_at hl 1 rfl) ?_
    refine lv_aload_n hx hb dX11_all_22 rfl (lv_at hl 0 rfl) ?_
    refine lv_iload_n hx hb dX11_all_23 rfl (lv_at hl 2 rfl) ?_
    obtain ⟨q_, s3, hc, hB⟩ := bindI_inv hB
    refine q_goiF (va_runV (As := [.int x2]) (rest := [.int x1]) C (cr_sumAt hc _) (cwV 1 hts gX11_all_X11_sumAt rfl rfl rfl (by decide +kernel) ⟨Nat.le_of_ble_eq_true rfl, Nat.le_of_ble_eq_true rfl⟩) (q_preV hK hP (ci := 11) (q0 := 0) rfl rfl rfl (q_preF hN hK hP hD)) rfl rfl hl.1 rfl (lv_room (Nat.le_of_ble_eq_true rfl)) dX11_all_24 ⟨Nat.le_of_ble_eq_true rfl, Nat.le_of_ble_eq_true rfl⟩) hD hS hA (fun r4 w1 H locs hw hP hD hS => ?_)
    obtain ⟨hq_, hw⟩ := hw; subst hw; subst hq_
    refine lv_imul hx hb dX11_all_27 ?_
    refine lv_istore_n (lv' := [(1, .int (x1 * r4)), (0, .ref h), (2, .int x2)]) hx hb dX11_all_28 rfl hl (by decide) rfl (fun ls hl => ?_)
    refine lv_iinc (v := (x2 + 1)) (lv' := [(2, .int (x2 + 1)), (1, .int (x1 * r4)), (0, .ref h)]) hx hb dX11_all_29 hl (k := 2) rfl (rfl) (by decide) rfl (fun ls hl => ?_)
    refine lv_goto (tgt := 8) hx hb dX11_all_32 (by decide) ?_
    exact hk8 _ _ _ hB p e s0 m below meth c A E H locs ls hP hD hS (lv_sub hl [2, 1, 0] rfl)
theorem br_all_8L {l : Launch} {dC : Nat → ClassId} {dI : Nat → Nat → Nat} {cB cI cJ cZ cS : ClassId} {h : Nat} {a : Nat → Nat} {as : List Value} {r : Int32} {s' : RS} : ∀ (n : Nat) (s : RS) (x1 : Int32) (x2 : Int32), r_all_8L n s x1 x2 = some (r, s') → BlkI l yX11_all wsX11_all ({ frames := 4, cells := 0, slots := 0, locals := 90 }) cX11_all 3 (some .int) (dC, dI) (tysA cB cI cJ cZ cS) as 8 (mwS cB cI cJ cZ h a s) [(0, .ref h), (1, .int x1), (2, .int x2)] [] (fun x u => x = r ∧ u = (mwS cB cI cJ cZ h a s')) := by
  intro n
  induction n with
  | zero => intro s x1 x2 hB; exact none_ne hB
  | succ n ih => intro s x1 x2 hB; exact br_all_8 ih _ _ _ hB
set_option maxHeartbeats 4000000 in
set_option maxRecDepth 100000 in
theorem br_all {l : Launch} {dC : Nat → ClassId} {dI : Nat → Nat → Nat} {cB cI cJ cZ cS : ClassId} {h : Nat} {a : Nat → Nat} {as : List Value} {r : Int32} {s' : RS} (s : RS) (hB : r_all s = some (r, s')) : BlkI l yX11_all wsX11_all ({ frames := 4, cells := 0, slots := 0, locals := 90 }) cX11_all 3 (some .int) (dC, dI) (tysA cB cI cJ cZ cS) as 0 (mwS cB cI cJ cZ h a s) [(0, .ref h)] [] (fun x u => x = r ∧ u = (mwS cB cI cJ cZ h a s')) := by
  intro p e s0 m below meth c A E H locs ls hP hD hS hl
  obtain ⟨C, hr, hlocks, hA, hK, hN⟩ := id E
  obtain ⟨hx, hb, hml, hown, hts⟩ := id C
  unfold r_all at hB
  refine lv_aload_n hx hb dX11_all_0 rfl (lv_at hl 0 rfl) ?_
  obtain ⟨s1, hc, hB⟩ := bindP_inv hB
  refine q_govF (va_runV (As := []) (rest := []) C (cr_copies hc _) (cwV 0 hts gX11_all_X11_copies rfl rfl rfl (by decide +kernel) ⟨Nat.le_of_ble_eq_true rfl, Nat.le_of_ble_eq_true rfl⟩) (q_preV hK hP (ci := 11) (q0 := 0) rfl rfl rfl (q_preF hN hK hP hD)) rfl rfl hl.1 rfl (lv_room (Nat.le_of_ble_eq_true rfl)) dX11_all_1 ⟨Nat.le_of_ble_eq_true rfl, Nat.le_of_ble_eq_true rfl⟩) hD hS hA (fun w1 H locs hw hP hD hS => ?_)
  subst hw
  refine lv_iconst (v := 1) hx hb dX11_all_4 (by decide) ?_
  refine lv_istore_n (lv' := [(1, .int 1), (0, .ref h)]) hx hb dX11_all_5 rfl hl (by decide) rfl (fun ls hl => ?_)
  refine lv_iconst (v := 0) hx hb dX11_all_6 (by decide) ?_
  refine lv_istore_n (lv' := [(2, .int 0), (1, .int 1), (0, .ref h)]) hx hb dX11_all_7 rfl hl (by decide) rfl (fun ls hl => ?_)
  exact br_all_8L fu _ _ _ hB p e s0 m below meth c A E H locs ls hP hD hS (lv_sub hl [2, 1, 0] rfl)
theorem cr_all {l : Launch} {dC : Nat → ClassId} {dI : Nat → Nat → Nat} {cB cI cJ cZ cS : ClassId} {h : Nat} {a : Nat → Nat} {r : Int32} {s' : RS} {s : RS} (hB : r_all s = some (r, s')) : CI l yX11_all wsX11_all ({ frames := 4, cells := 0, slots := 0, locals := 90 }) (dC, dI) (tysA cB cI cJ cZ cS) (mwS cB cI cJ cZ h a s) [.ref h] (fun x u => x = r ∧ u = (mwS cB cI cJ cZ h a s')) :=
  CI_of (cc := cX11_all) (maxL := 3) (ret := (some .int)) (by decide) rfl (Nat.le_of_ble_eq_true rfl) (br_all _ hB)
end
section
theorem ggX11_bestFor_X11_mayBe : GoodIn wsX11_bestFor wsX11_mayBe := gi_sub (fun w h => List.mem_cons_of_mem _ (List.mem_append_left _ (List.mem_append_right _ (List.mem_append_left _ h)))) gd_wsX11_mayBe
set_option maxRecDepth 20000 in
theorem gX11_bestFor_X11_mayBe : GoodIn wsX11_bestFor (wsV RX11 388 RX11 yX11_mayBe wsX11_mayBe) := goodIn_app (goodIn_r _ [4, 5, 6, 7] (by decide +kernel) (by decide +kernel)) ggX11_bestFor_X11_mayBe
theorem ggX11_bestFor_X11_doesBear : GoodIn wsX11_bestFor wsX11_doesBear := gi_sub (fun w h => List.mem_cons_of_mem _ (List.mem_append_left _ (List.mem_append_right _ (List.mem_append_right _ (List.mem_append_left _ h))))) gd_wsX11_doesBear
set_option maxRecDepth 20000 in
theorem gX11_bestFor_X11_doesBear : GoodIn wsX11_bestFor (wsV RX11 333 RX11 yX11_doesBear wsX11_doesBear) := goodIn_app (goodIn_r _ [11, 12, 13, 7] (by decide +kernel) (by decide +kernel)) ggX11_bestFor_X11_doesBear
theorem ggX11_bestFor_X11_oddsAt : GoodIn wsX11_bestFor wsX11_oddsAt := gi_sub (fun w h => List.mem_cons_of_mem _ (List.mem_append_left _ (List.mem_append_right _ (List.mem_append_right _ (List.mem_append_right _ h))))) gd_wsX11_oddsAt
set_option maxRecDepth 20000 in
theorem gX11_bestFor_X11_oddsAt : GoodIn wsX11_bestFor (wsV RX11 297 RX11 yX11_oddsAt wsX11_oddsAt) := goodIn_app (goodIn_r _ [8, 9, 10, 7] (by decide +kernel) (by decide +kernel)) ggX11_bestFor_X11_oddsAt
theorem dX11_bestFor_0 : decode cX11_bestFor 0 = .ok (.iconst 0, 1) := dc1_3 (by decide +kernel)
theorem dX11_bestFor_1 : decode cX11_bestFor 1 = .ok (.istore_n 2, 1) := dc1_61 (by decide +kernel)
theorem dX11_bestFor_2 : decode cX11_bestFor 2 = .ok (.iconst 0, 1) := dc1_3 (by decide +kernel)
theorem dX11_bestFor_3 : decode cX11_bestFor 3 = .ok (.istore_n 3, 1) := dc1_62 (by decide +kernel)
theorem dX11_bestFor_4 : decode cX11_bestFor 4 = .ok (.iload_n 3, 1) := dc1_29 (by decide +kernel)
theorem dX11_bestFor_5 : decode cX11_bestFor 5 = .ok (.aload_n 0, 1) := dc1_42 (by decide +kernel)
theorem dX11_bestFor_6 : decode cX11_bestFor 6 = .ok (.getfield 40, 3) := dcw_180 (by decide +kernel)
theorem dX11_bestFor_9 : decode cX11_bestFor 9 = .ok (.aload_n 0, 1) := dc1_42 (by decide +kernel)
theorem dX11_bestFor_10 : decode cX11_bestFor 10 = .ok (.getfield 215, 3) := dcw_180 (by decide +kernel)
theorem dX11_bestFor_13 : decode cX11_bestFor 13 = .ok (.iaload, 1) := dc1_46 (by decide +kernel)
theorem dX11_bestFor_14 : decode cX11_bestFor 14 = .ok (.if_icmp .ge 101, 3) := dcs_162 (n := 101) (by decide +kernel)
theorem dX11_bestFor_17 : decode cX11_bestFor 17 = .ok (.bipush (-2), 2) := dcb_16 (n := 254) (by decide +kernel)
theorem dX11_bestFor_19 : decode cX11_bestFor 19 = .ok (.istore 4, 2) := dcu_54 (by decide +kernel)
theorem dX11_bestFor_21 : decode cX11_bestFor 21 = .ok (.iconst 0, 1) := dc1_3 (by decide +kernel)
theorem dX11_bestFor_22 : decode cX11_bestFor 22 = .ok (.istore 5, 2) := dcu_54 (by decide +kernel)
theorem dX11_bestFor_24 : decode cX11_bestFor 24 = .ok (.iload 5, 2) := dcu_21 (by decide +kernel)
theorem dX11_bestFor_26 : decode cX11_bestFor 26 = .ok (.bipush 6, 2) := dcb_16 (n := 6) (by decide +kernel)
theorem dX11_bestFor_28 : decode cX11_bestFor 28 = .ok (.if_icmp .ge 61, 3) := dcs_162 (n := 61) (by decide +kernel)
theorem dX11_bestFor_31 : decode cX11_bestFor 31 = .ok (.aload_n 0, 1) := dc1_42 (by decide +kernel)
theorem dX11_bestFor_32 : decode cX11_bestFor 32 = .ok (.iload_n 3, 1) := dc1_29 (by decide +kernel)
theorem dX11_bestFor_33 : decode cX11_bestFor 33 = .ok (.iload 5, 2) := dcu_21 (by decide +kernel)
theorem dX11_bestFor_35 : decode cX11_bestFor 35 = .ok (.invokevirtual 388, 3) := dcw_182 (by decide +kernel)
theorem dX11_bestFor_38 : decode cX11_bestFor 38 = .ok (.ifCond .eq 45, 3) := dcs_153 (n := 45) (by decide +kernel)
theorem dX11_bestFor_41 : decode cX11_bestFor 41 = .ok (.iload_n 1, 1) := dc1_27 (by decide +kernel)
theorem dX11_bestFor_42 : decode cX11_bestFor 42 = .ok (.iconst (-1), 1) := dc1_2 (by decide +kernel)
theorem dX11_bestFor_43 : decode cX11_bestFor 43 = .ok (.if_icmp .eq 14, 3) := dcs_159 (n := 14) (by decide +kernel)
theorem dX11_bestFor_46 : decode cX11_bestFor 46 = .ok (.aload_n 0, 1) := dc1_42 (by decide +kernel)
theorem dX11_bestFor_47 : decode cX11_bestFor 47 = .ok (.iload_n 1, 1) := dc1_27 (by decide +kernel)
theorem dX11_bestFor_48 : decode cX11_bestFor 48 = .ok (.iload_n 3, 1) := dc1_29 (by decide +kernel)
theorem dX11_bestFor_49 : decode cX11_bestFor 49 = .ok (.iload 5, 2) := dcu_21 (by decide +kernel)
theorem dX11_bestFor_51 : decode cX11_bestFor 51 = .ok (.invokevirtual 333, 3) := dcw_182 (by decide +kernel)
theorem dX11_bestFor_54 : decode cX11_bestFor 54 = .ok (.ifCond .eq 29, 3) := dcs_153 (n := 29) (by decide +kernel)
theorem dX11_bestFor_57 : decode cX11_bestFor 57 = .ok (.iload 4, 2) := dcu_21 (by decide +kernel)
theorem dX11_bestFor_59 : decode cX11_bestFor 59 = .ok (.ifCond .lt 20, 3) := dcs_155 (n := 20) (by decide +kernel)
theorem dX11_bestFor_62 : decode cX11_bestFor 62 = .ok (.aload_n 0, 1) := dc1_42 (by decide +kernel)
theorem dX11_bestFor_63 : decode cX11_bestFor 63 = .ok (.iload_n 3, 1) := dc1_29 (by decide +kernel)
theorem dX11_bestFor_64 : decode cX11_bestFor 64 = .ok (.iload 5, 2) := dcu_21 (by decide +kernel)
theorem dX11_bestFor_66 : decode cX11_bestFor 66 = .ok (.invokevirtual 297, 3) := dcw_182 (by decide +kernel)
theorem dX11_bestFor_69 : decode cX11_bestFor 69 = .ok (.aload_n 0, 1) := dc1_42 (by decide +kernel)
theorem dX11_bestFor_70 : decode cX11_bestFor 70 = .ok (.iload_n 3, 1) := dc1_29 (by decide +kernel)
theorem dX11_bestFor_71 : decode cX11_bestFor 71 = .ok (.iload 4, 2) := dcu_21 (by decide +kernel)
theorem dX11_bestFor_73 : decode cX11_bestFor 73 = .ok (.invokevirtual 297, 3) := dcw_182 (by decide +kernel)
theorem dX11_bestFor_76 : decode cX11_bestFor 76 = .ok (.if_icmp .le 7, 3) := dcs_164 (n := 7) (by decide +kernel)
theorem dX11_bestFor_79 : decode cX11_bestFor 79 = .ok (.iload 5, 2) := dcu_21 (by decide +kernel)
theorem dX11_bestFor_81 : decode cX11_bestFor 81 = .ok (.istore 4, 2) := dcu_54 (by decide +kernel)
theorem dX11_bestFor_83 : decode cX11_bestFor 83 = .ok (.iinc 5 1, 3) := dc_iinc (m := 1) (by decide +kernel)
theorem dX11_bestFor_86 : decode cX11_bestFor 86 = .ok (.goto (-62), 3) := dcs_167 (n := 65474) (by decide +kernel)
theorem dX11_bestFor_89 : decode cX11_bestFor 89 = .ok (.iload 4, 2) := dcu_21 (by decide +kernel)
theorem dX11_bestFor_91 : decode cX11_bestFor 91 = .ok (.ifCond .ge 6, 3) := dcs_156 (n := 6) (by decide +kernel)
theorem dX11_bestFor_94 : decode cX11_bestFor 94 = .ok (.bipush (-2), 2) := dcb_16 (n := 254) (by decide +kernel)
theorem dX11_bestFor_96 : decode cX11_bestFor 96 = .ok (.ireturn, 1) := dc1_172 (by decide +kernel)
theorem dX11_bestFor_97 : decode cX11_bestFor 97 = .ok (.iload_n 2, 1) := dc1_28 (by decide +kernel)
theorem dX11_bestFor_98 : decode cX11_bestFor 98 = .ok (.aload_n 0, 1) := dc1_42 (by decide +kernel)
theorem dX11_bestFor_99 : decode cX11_bestFor 99 = .ok (.getfield 104, 3) := dcw_180 (by decide +kernel)
theorem dX11_bestFor_102 : decode cX11_bestFor 102 = .ok (.iload_n 3, 1) := dc1_29 (by decide +kernel)
theorem dX11_bestFor_103 : decode cX11_bestFor 103 = .ok (.iaload, 1) := dc1_46 (by decide +kernel)
theorem dX11_bestFor_104 : decode cX11_bestFor 104 = .ok (.iload 4, 2) := dcu_21 (by decide +kernel)
theorem dX11_bestFor_106 : decode cX11_bestFor 106 = .ok (.imul, 1) := dc1_104 (by decide +kernel)
theorem dX11_bestFor_107 : decode cX11_bestFor 107 = .ok (.iadd, 1) := dc1_96 (by decide +kernel)
theorem dX11_bestFor_108 : decode cX11_bestFor 108 = .ok (.istore_n 2, 1) := dc1_61 (by decide +kernel)
theorem dX11_bestFor_109 : decode cX11_bestFor 109 = .ok (.iinc 3 1, 3) := dc_iinc (m := 1) (by decide +kernel)
theorem dX11_bestFor_112 : decode cX11_bestFor 112 = .ok (.goto (-108), 3) := dcs_167 (n := 65428) (by decide +kernel)
theorem dX11_bestFor_115 : decode cX11_bestFor 115 = .ok (.iload_n 2, 1) := dc1_28 (by decide +kernel)
theorem dX11_bestFor_116 : decode cX11_bestFor 116 = .ok (.ireturn, 1) := dc1_172 (by decide +kernel)
theorem ggX11_likeliest_X11_copies : GoodIn wsX11_likeliest wsX11_copies := gi_sub (fun w h => List.mem_cons_of_mem _ (List.mem_append_left _ (List.mem_append_right _ (List.mem_append_left _ h)))) gd_wsX11_copies
set_option maxRecDepth 20000 in
theorem gX11_likeliest_X11_copies : GoodIn wsX11_likeliest (wsV RX11 352 RX11 yX11_copies wsX11_copies) := goodIn_app (goodIn_r _ [1, 2, 3, 4] (by decide +kernel) (by decide +kernel)) ggX11_likeliest_X11_copies
theorem ggX11_likeliest_X11_bestFor : GoodIn wsX11_likeliest wsX11_bestFor := gi_sub (fun w h => List.mem_cons_of_mem _ (List.mem_append_left _ (List.mem_append_right _ (List.mem_append_right _ h)))) gd_wsX11_bestFor
set_option maxRecDepth 20000 in
theorem gX11_likeliest_X11_bestFor : GoodIn wsX11_likeliest (wsV RX11 398 RX11 yX11_bestFor wsX11_bestFor) := goodIn_app (goodIn_r _ [5, 6, 7, 4] (by decide +kernel) (by decide +kernel)) ggX11_likeliest_X11_bestFor
theorem dX11_likeliest_0 : decode cX11_likeliest 0 = .ok (.aload_n 0, 1) := dc1_42 (by decide +kernel)
theorem dX11_likeliest_1 : decode cX11_likeliest 1 = .ok (.invokevirtual 352, 3) := dcw_182 (by decide +kernel)
theorem dX11_likeliest_4 : decode cX11_likeliest 4 = .ok (.aload_n 0, 1) := dc1_42 (by decide +kernel)
theorem dX11_likeliest_5 : decode cX11_likeliest 5 = .ok (.iconst (-1), 1) := dc1_2 (by decide +kernel)
theorem dX11_likeliest_6 : decode cX11_likeliest 6 = .ok (.invokevirtual 398, 3) := dcw_182 (by decide +kernel)
theorem dX11_likeliest_9 : decode cX11_likeliest 9 = .ok (.ireturn, 1) := dc1_172 (by decide +kernel)
theorem ggX11_bears_X11_isParty : GoodIn wsX11_bears wsX11_isParty := gi_sub (fun w h => List.mem_cons_of_mem _ (List.mem_append_left _ (List.mem_append_right _ (List.mem_append_left _ h)))) gd_wsX11_isParty
set_option maxRecDepth 20000 in
theorem gX11_bears_X11_isParty : GoodIn wsX11_bears (wsV RX11 358 RX11 yX11_isParty wsX11_isParty) := goodIn_app (goodIn_r _ [1, 2, 3, 4] (by decide +kernel) (by decide +kernel)) ggX11_bears_X11_isParty
theorem ggX11_bears_X11_isGuess : GoodIn wsX11_bears wsX11_isGuess := gi_sub (fun w h => List.mem_cons_of_mem _ (List.mem_append_left _ (List.mem_append_right _ (List.mem_append_right _ (List.mem_append_left _ h))))) gd_wsX11_isGuess
set_option maxRecDepth 20000 in
theorem gX11_bears_X11_isGuess : GoodIn wsX11_bears (wsV RX11 367 RX11 yX11_isGuess wsX11_isGuess) := goodIn_app (goodIn_r _ [5, 6, 7, 4] (by decide +kernel) (by decide +kernel)) ggX11_bears_X11_isGuess
theorem ggX11_bears_X11_copies : GoodIn wsX11_bears wsX11_copies := gi_sub (fun w h => List.mem_cons_of_mem _ (List.mem_append_left _ (List.mem_append_right _ (List.mem_append_right _ (List.mem_append_right _ (List.mem_append_left _ h)))))) gd_wsX11_copies
set_option maxRecDepth 20000 in
theorem gX11_bears_X11_copies : GoodIn wsX11_bears (wsV RX11 352 RX11 yX11_copies wsX11_copies) := goodIn_app (goodIn_r _ [8, 9, 10, 4] (by decide +kernel) (by decide +kernel)) ggX11_bears_X11_copies
theorem ggX11_bears_X11_bearsBy : GoodIn wsX11_bears wsX11_bearsBy := gi_sub (fun w h => List.mem_cons_of_mem _ (List.mem_append_left _ (List.mem_append_right _ (List.mem_append_right _ (List.mem_append_right _ (List.mem_append_right _ h)))))) gd_wsX11_bearsBy
set_option maxRecDepth 20000 in
theorem gX11_bears_X11_bearsBy : GoodIn wsX11_bears (wsV RX11 336 RX11 yX11_bearsBy wsX11_bearsBy) := goodIn_app (goodIn_r _ [11, 12, 13, 4] (by decide +kernel) (by decide +kernel)) ggX11_bears_X11_bearsBy
theorem dX11_bears_0 : decode cX11_bears 0 = .ok (.aload_n 0, 1) := dc1_42 (by decide +kernel)
theorem dX11_bears_1 : decode cX11_bears 1 = .ok (.iload_n 1, 1) := dc1_27 (by decide +kernel)
theorem dX11_bears_2 : decode cX11_bears 2 = .ok (.invokevirtual 358, 3) := dcw_182 (by decide +kernel)
theorem dX11_bears_5 : decode cX11_bears 5 = .ok (.ifCond .eq 11, 3) := dcs_153 (n := 11) (by decide +kernel)
theorem dX11_bears_8 : decode cX11_bears 8 = .ok (.aload_n 0, 1) := dc1_42 (by decide +kernel)
theorem dX11_bears_9 : decode cX11_bears 9 = .ok (.iload_n 2, 1) := dc1_28 (by decide +kernel)
theorem dX11_bears_10 : decode cX11_bears 10 = .ok (.invokevirtual 367, 3) := dcw_182 (by decide +kernel)
theorem dX11_bears_13 : decode cX11_bears 13 = .ok (.ifCond .ne 5, 3) := dcs_154 (n := 5) (by decide +kernel)
theorem dX11_bears_16 : decode cX11_bears 16 = .ok (.iconst (-1), 1) := dc1_2 (by decide +kernel)
theorem dX11_bears_17 : decode cX11_bears 17 = .ok (.ireturn, 1) := dc1_172 (by decide +kernel)
theorem dX11_bears_18 : decode cX11_bears 18 = .ok (.aload_n 0, 1) := dc1_42 (by decide +kernel)
theorem dX11_bears_19 : decode cX11_bears 19 = .ok (.invokevirtual 352, 3) := dcw_182 (by decide +kernel)
theorem dX11_bears_22 : decode cX11_bears 22 = .ok (.aload_n 0, 1) := dc1_42 (by decide +kernel)
theorem dX11_bears_23 : decode cX11_bears 23 = .ok (.iload_n 1, 1) := dc1_27 (by decide +kernel)
theorem dX11_bears_24 : decode cX11_bears 24 = .ok (.iload_n 2, 1) := dc1_28 (by decide +kernel)
theorem dX11_bears_25 : decode cX11_bears 25 = .ok (.invokevirtual 336, 3) := dcw_182 (by decide +kernel)
theorem dX11_bears_28 : decode cX11_bears 28 = .ok (.ireturn, 1) := dc1_172 (by decide +kernel)
theorem ggX11_safest_X11_isParty : GoodIn wsX11_safest wsX11_isParty := gi_sub (fun w h => List.mem_cons_of_mem _ (List.mem_append_left _ (List.mem_append_right _ (List.mem_append_left _ h)))) gd_wsX11_isParty
set_option maxRecDepth 20000 in
theorem gX11_safest_X11_isParty : GoodIn wsX11_safest (wsV RX11 358 RX11 yX11_isParty wsX11_isParty) := goodIn_app (goodIn_r _ [1, 2, 3, 4] (by decide +kernel) (by decide +kernel)) ggX11_safest_X11_isParty
theorem ggX11_safest_X11_copies : GoodIn wsX11_safest wsX11_copies := gi_sub (fun w h => List.mem_cons_of_mem _ (List.mem_append_left _ (List.mem_append_right _ (List.mem_append_right _ (List.mem_append_left _ h))))) gd_wsX11_copies
set_option maxRecDepth 20000 in
theorem gX11_safest_X11_copies : GoodIn wsX11_safest (wsV RX11 352 RX11 yX11_copies wsX11_copies) := goodIn_app (goodIn_r _ [5, 6, 7, 4] (by decide +kernel) (by decide +kernel)) ggX11_safest_X11_copies
theorem ggX11_safest_X11_bestFor : GoodIn wsX11_safest wsX11_bestFor := gi_sub (fun w h => List.mem_cons_of_mem _ (List.mem_append_left _ (List.mem_append_right _ (List.mem_append_right _ (List.mem_append_right _ h))))) gd_wsX11_bestFor
set_option maxRecDepth 20000 in
theorem gX11_safest_X11_bestFor : GoodIn wsX11_safest (wsV RX11 398 RX11 yX11_bestFor wsX11_bestFor) := goodIn_app (goodIn_r _ [8, 9, 10, 4] (by decide +kernel) (by decide +kernel)) ggX11_safest_X11_bestFor
theorem dX11_safest_0 : decode cX11_safest 0 = .ok (.aload_n 0, 1) := dc1_42 (by decide +kernel)
theorem dX11_safest_1 : decode cX11_safest 1 = .ok (.iload_n 1, 1) := dc1_27 (by decide +kernel)
theorem dX11_safest_2 : decode cX11_safest 2 = .ok (.invokevirtual 358, 3) := dcw_182 (by decide +kernel)
theorem dX11_safest_5 : decode cX11_safest 5 = .ok (.ifCond .ne 5, 3) := dcs_154 (n := 5) (by decide +kernel)
theorem dX11_safest_8 : decode cX11_safest 8 = .ok (.iconst (-1), 1) := dc1_2 (by decide +kernel)
theorem dX11_safest_9 : decode cX11_safest 9 = .ok (.ireturn, 1) := dc1_172 (by decide +kernel)
theorem dX11_safest_10 : decode cX11_safest 10 = .ok (.aload_n 0, 1) := dc1_42 (by decide +kernel)
theorem dX11_safest_11 : decode cX11_safest 11 = .ok (.invokevirtual 352, 3) := dcw_182 (by decide +kernel)
theorem dX11_safest_14 : decode cX11_safest 14 = .ok (.aload_n 0, 1) := dc1_42 (by decide +kernel)
theorem dX11_safest_15 : decode cX11_safest 15 = .ok (.iload_n 1, 1) := dc1_27 (by decide +kernel)
theorem dX11_safest_16 : decode cX11_safest 16 = .ok (.invokevirtual 398, 3) := dcw_182 (by decide +kernel)
theorem dX11_safest_19 : decode cX11_safest 19 = .ok (.ireturn, 1) := dc1_172 (by decide +kernel)
theorem ggX11_enough_X11_copies : GoodIn wsX11_enough wsX11_copies := gi_sub (fun w h => List.mem_cons_of_mem _ (List.mem_append_left _ (List.mem_append_right _ (List.mem_append_left _ h)))) gd_wsX11_copies
set_option maxRecDepth 20000 in
theorem gX11_enough_X11_copies : GoodIn wsX11_enough (wsV RX11 352 RX11 yX11_copies wsX11_copies) := goodIn_app (goodIn_r _ [3, 4, 5, 6] (by decide +kernel) (by decide +kernel)) ggX11_enough_X11_copies
theorem ggX11_enough_X11_casesNow : GoodIn wsX11_enough wsX11_casesNow := gi_sub (fun w h => List.mem_cons_of_mem _ (List.mem_append_left _ (List.mem_append_right _ (List.mem_append_right _ (List.mem_append_left _ h))))) gd_wsX11_casesNow
set_option maxRecDepth 20000 in
theorem gX11_enough_X11_casesNow : GoodIn wsX11_enough (wsV RX11 385 RX11 yX11_casesNow wsX11_casesNow) := goodIn_app (goodIn_r _ [7, 8, 9, 6] (by decide +kernel) (by decide +kernel)) ggX11_enough_X11_casesNow
theorem ggX11_enough_X11_mayAt : GoodIn wsX11_enough wsX11_mayAt := gi_sub (fun w h => List.mem_cons_of_mem _ (List.mem_append_left _ (List.mem_append_right _ (List.mem_append_right _ (List.mem_append_right _ (List.mem_append_left _ h)))))) gd_wsX11_mayAt
set_option maxRecDepth 20000 in
theorem gX11_enough_X11_mayAt : GoodIn wsX11_enough (wsV RX11 309 RX11 yX11_mayAt wsX11_mayAt) := goodIn_app (goodIn_r _ [10, 11, 12, 6] (by decide +kernel) (by decide +kernel)) ggX11_enough_X11_mayAt
theorem ggX11_enough_X11_bits : GoodIn wsX11_enough wsX11_bits := gi_sub (fun w h => List.mem_cons_of_mem _ (List.mem_append_left _ (List.mem_append_right _ (List.mem_append_right _ (List.mem_append_right _ (List.mem_append_right _ h)))))) gd_wsX11_bits
set_option maxRecDepth 20000 in
theorem gX11_enough_X11_bits : GoodIn wsX11_enough (va_wsS RX11 312 yX11_bits wsX11_bits) := goodIn_app (goodIn_of _ (by decide +kernel)) ggX11_enough_X11_bits
theorem dX11_enough_0 : decode cX11_enough 0 = .ok (.aload_n 0, 1) := dc1_42 (by decide +kernel)
theorem dX11_enough_1 : decode cX11_enough 1 = .ok (.invokevirtual 352, 3) := dcw_182 (by decide +kernel)
theorem dX11_enough_4 : decode cX11_enough 4 = .ok (.aload_n 0, 1) := dc1_42 (by decide +kernel)
theorem dX11_enough_5 : decode cX11_enough 5 = .ok (.invokevirtual 385, 3) := dcw_182 (by decide +kernel)
theorem dX11_enough_8 : decode cX11_enough 8 = .ok (.ifCond .ne 6, 3) := dcs_154 (n := 6) (by decide +kernel)
theorem dX11_enough_11 : decode cX11_enough 11 = .ok (.bipush (-2), 2) := dcb_16 (n := 254) (by decide +kernel)
theorem dX11_enough_13 : decode cX11_enough 13 = .ok (.ireturn, 1) := dc1_172 (by decide +kernel)
theorem dX11_enough_14 : decode cX11_enough 14 = .ok (.iconst 1, 1) := dc1_4 (by decide +kernel)
theorem dX11_enough_15 : decode cX11_enough 15 = .ok (.istore_n 1, 1) := dc1_60 (by decide +kernel)
theorem dX11_enough_16 : decode cX11_enough 16 = .ok (.iconst 0, 1) := dc1_3 (by decide +kernel)
theorem dX11_enough_17 : decode cX11_enough 17 = .ok (.istore_n 2, 1) := dc1_61 (by decide +kernel)
theorem dX11_enough_18 : decode cX11_enough 18 = .ok (.iload_n 2, 1) := dc1_28 (by decide +kernel)
theorem dX11_enough_19 : decode cX11_enough 19 = .ok (.aload_n 0, 1) := dc1_42 (by decide +kernel)
theorem dX11_enough_20 : decode cX11_enough 20 = .ok (.getfield 40, 3) := dcw_180 (by decide +kernel)
theorem dX11_enough_23 : decode cX11_enough 23 = .ok (.aload_n 0, 1) := dc1_42 (by decide +kernel)
theorem dX11_enough_24 : decode cX11_enough 24 = .ok (.getfield 215, 3) := dcw_180 (by decide +kernel)
theorem dX11_enough_27 : decode cX11_enough 27 = .ok (.iaload, 1) := dc1_46 (by decide +kernel)
theorem dX11_enough_28 : decode cX11_enough 28 = .ok (.if_icmp .ge 22, 3) := dcs_162 (n := 22) (by decide +kernel)
theorem dX11_enough_31 : decode cX11_enough 31 = .ok (.iload_n 1, 1) := dc1_27 (by decide +kernel)
theorem dX11_enough_32 : decode cX11_enough 32 = .ok (.aload_n 0, 1) := dc1_42 (by decide +kernel)
theorem dX11_enough_33 : decode cX11_enough 33 = .ok (.iload_n 2, 1) := dc1_28 (by decide +kernel)
theorem dX11_enough_34 : decode cX11_enough 34 = .ok (.invokevirtual 309, 3) := dcw_182 (by decide +kernel)
theorem dX11_enough_37 : decode cX11_enough 37 = .ok (.invokestatic 312, 3) := dcw_184 (by decide +kernel)
theorem dX11_enough_40 : decode cX11_enough 40 = .ok (.iconst 1, 1) := dc1_4 (by decide +kernel)
theorem dX11_enough_41 : decode cX11_enough 41 = .ok (.isub, 1) := dc1_100 (by decide +kernel)
theorem dX11_enough_42 : decode cX11_enough 42 = .ok (.iadd, 1) := dc1_96 (by decide +kernel)
theorem dX11_enough_43 : decode cX11_enough 43 = .ok (.istore_n 1, 1) := dc1_60 (by decide +kernel)
theorem dX11_enough_44 : decode cX11_enough 44 = .ok (.iinc 2 1, 3) := dc_iinc (m := 1) (by decide +kernel)
theorem dX11_enough_47 : decode cX11_enough 47 = .ok (.goto (-29), 3) := dcs_167 (n := 65507) (by decide +kernel)
theorem dX11_enough_50 : decode cX11_enough 50 = .ok (.iload_n 1, 1) := dc1_27 (by decide +kernel)
theorem dX11_enough_51 : decode cX11_enough 51 = .ok (.ireturn, 1) := dc1_172 (by decide +kernel)
theorem ggX11_leftOf_X11_casesNow : GoodIn wsX11_leftOf wsX11_casesNow := gi_sub (fun w h => List.mem_cons_of_mem _ (List.mem_append_left _ (List.mem_append_right _ (List.mem_append_left _ h)))) gd_wsX11_casesNow
set_option maxRecDepth 20000 in
theorem gX11_leftOf_X11_casesNow : GoodIn wsX11_leftOf (wsV RX11 385 RX11 yX11_casesNow wsX11_casesNow) := goodIn_app (goodIn_r _ [3, 4, 5, 6] (by decide +kernel) (by decide +kernel)) ggX11_leftOf_X11_casesNow
theorem ggX11_leftOf_X11_mayAt : GoodIn wsX11_leftOf wsX11_mayAt := gi_sub (fun w h => List.mem_cons_of_mem _ (List.mem_append_left _ (List.mem_append_right _ (List.mem_append_right _ (List.mem_append_left _ h))))) gd_wsX11_mayAt
set_option maxRecDepth 20000 in
theorem gX11_leftOf_X11_mayAt : GoodIn wsX11_leftOf (wsV RX11 309 RX11 yX11_mayAt wsX11_mayAt) := goodIn_app (goodIn_r _ [7, 8, 9, 6] (by decide +kernel) (by decide +kernel)) ggX11_leftOf_X11_mayAt
theorem ggX11_leftOf_X11_bits : GoodIn wsX11_leftOf wsX11_bits := gi_sub (fun w h => List.mem_cons_of_mem _ (List.mem_append_left _ (List.mem_append_right _ (List.mem_append_right _ (List.mem_append_right _ (List.mem_append_left _ h)))))) gd_wsX11_bits
set_option maxRecDepth 20000 in
theorem gX11_leftOf_X11_bits : GoodIn wsX11_leftOf (va_wsS RX11 312 yX11_bits wsX11_bits) := goodIn_app (goodIn_of _ (by decide +kernel)) ggX11_leftOf_X11_bits
theorem ggX11_leftOf_X11_thingAt : GoodIn wsX11_leftOf wsX11_thingAt := gi_sub (fun w h => List.mem_cons_of_mem _ (List.mem_append_left _ (List.mem_append_right _ (List.mem_append_right _ (List.mem_append_right _ (List.mem_append_right _ h)))))) gd_wsX11_thingAt
set_option maxRecDepth 20000 in
theorem gX11_leftOf_X11_thingAt : GoodIn wsX11_leftOf (wsV RX11 330 RX11 yX11_thingAt wsX11_thingAt) := goodIn_app (goodIn_r _ [12, 13, 14, 6] (by decide +kernel) (by decide +kernel)) ggX11_leftOf_X11_thingAt
theorem dX11_leftOf_0 : decode cX11_leftOf 0 = .ok (.iconst 0, 1) := dc1_3 (by decide +kernel)
theorem dX11_leftOf_1 : decode cX11_leftOf 1 = .ok (.istore_n 2, 1) := dc1_61 (by decide +kernel)
theorem dX11_leftOf_2 : decode cX11_leftOf 2 = .ok (.aload_n 0, 1) := dc1_42 (by decide +kernel)
theorem dX11_leftOf_3 : decode cX11_leftOf 3 = .ok (.invokevirtual 385, 3) := dcw_182 (by decide +kernel)
theorem dX11_leftOf_6 : decode cX11_leftOf 6 = .ok (.istore_n 3, 1) := dc1_62 (by decide +kernel)
theorem dX11_leftOf_7 : decode cX11_leftOf 7 = .ok (.iconst 0, 1) := dc1_3 (by decide +kernel)
theorem dX11_leftOf_8 : decode cX11_leftOf 8 = .ok (.istore 4, 2) := dcu_54 (by decide +kernel)
theorem dX11_leftOf_10 : decode cX11_leftOf 10 = .ok (.iload 4, 2) := dcu_21 (by decide +kernel)
theorem dX11_leftOf_12 : decode cX11_leftOf 12 = .ok (.aload_n 0, 1) := dc1_42 (by decide +kernel)
theorem dX11_leftOf_13 : decode cX11_leftOf 13 = .ok (.getfield 40, 3) := dcw_180 (by decide +kernel)
theorem dX11_leftOf_16 : decode cX11_leftOf 16 = .ok (.aload_n 0, 1) := dc1_42 (by decide +kernel)
theorem dX11_leftOf_17 : decode cX11_leftOf 17 = .ok (.getfield 215, 3) := dcw_180 (by decide +kernel)
theorem dX11_leftOf_20 : decode cX11_leftOf 20 = .ok (.iaload, 1) := dc1_46 (by decide +kernel)
theorem dX11_leftOf_21 : decode cX11_leftOf 21 = .ok (.if_icmp .ge 69, 3) := dcs_162 (n := 69) (by decide +kernel)
theorem dX11_leftOf_24 : decode cX11_leftOf 24 = .ok (.aload_n 0, 1) := dc1_42 (by decide +kernel)
theorem dX11_leftOf_25 : decode cX11_leftOf 25 = .ok (.iload 4, 2) := dcu_21 (by decide +kernel)
theorem dX11_leftOf_27 : decode cX11_leftOf 27 = .ok (.invokevirtual 309, 3) := dcw_182 (by decide +kernel)
theorem dX11_leftOf_30 : decode cX11_leftOf 30 = .ok (.istore 5, 2) := dcu_54 (by decide +kernel)
theorem dX11_leftOf_32 : decode cX11_leftOf 32 = .ok (.iload_n 3, 1) := dc1_29 (by decide +kernel)
theorem dX11_leftOf_33 : decode cX11_leftOf 33 = .ok (.iload 5, 2) := dcu_21 (by decide +kernel)
theorem dX11_leftOf_35 : decode cX11_leftOf 35 = .ok (.invokestatic 312, 3) := dcw_184 (by decide +kernel)
theorem dX11_leftOf_38 : decode cX11_leftOf 38 = .ok (.idiv, 1) := dc1_108 (by decide +kernel)
theorem dX11_leftOf_39 : decode cX11_leftOf 39 = .ok (.istore_n 3, 1) := dc1_62 (by decide +kernel)
theorem dX11_leftOf_40 : decode cX11_leftOf 40 = .ok (.iload 5, 2) := dcu_21 (by decide +kernel)
theorem dX11_leftOf_42 : decode cX11_leftOf 42 = .ok (.iconst 1, 1) := dc1_4 (by decide +kernel)
theorem dX11_leftOf_43 : decode cX11_leftOf 43 = .ok (.aload_n 0, 1) := dc1_42 (by decide +kernel)
theorem dX11_leftOf_44 : decode cX11_leftOf 44 = .ok (.iload_n 1, 1) := dc1_27 (by decide +kernel)
theorem dX11_leftOf_45 : decode cX11_leftOf 45 = .ok (.iload 4, 2) := dcu_21 (by decide +kernel)
theorem dX11_leftOf_47 : decode cX11_leftOf 47 = .ok (.invokevirtual 330, 3) := dcw_182 (by decide +kernel)
theorem dX11_leftOf_50 : decode cX11_leftOf 50 = .ok (.ishl, 1) := dc1_120 (by decide +kernel)
theorem dX11_leftOf_51 : decode cX11_leftOf 51 = .ok (.iconst (-1), 1) := dc1_2 (by decide +kernel)
theorem dX11_leftOf_52 : decode cX11_leftOf 52 = .ok (.ixor, 1) := dc1_130 (by decide +kernel)
theorem dX11_leftOf_53 : decode cX11_leftOf 53 = .ok (.iand, 1) := dc1_126 (by decide +kernel)
theorem dX11_leftOf_54 : decode cX11_leftOf 54 = .ok (.invokestatic 312, 3) := dcw_184 (by decide +kernel)
theorem dX11_leftOf_57 : decode cX11_leftOf 57 = .ok (.istore 6, 2) := dcu_54 (by decide +kernel)
theorem dX11_leftOf_59 : decode cX11_leftOf 59 = .ok (.iload 6, 2) := dcu_21 (by decide +kernel)
theorem dX11_leftOf_61 : decode cX11_leftOf 61 = .ok (.iload_n 3, 1) := dc1_29 (by decide +kernel)
theorem dX11_leftOf_62 : decode cX11_leftOf 62 = .ok (.imul, 1) := dc1_104 (by decide +kernel)
theorem dX11_leftOf_63 : decode cX11_leftOf 63 = .ok (.iload_n 2, 1) := dc1_28 (by decide +kernel)
theorem dX11_leftOf_64 : decode cX11_leftOf 64 = .ok (.if_icmp .le 8, 3) := dcs_164 (n := 8) (by decide +kernel)
theorem dX11_leftOf_67 : decode cX11_leftOf 67 = .ok (.iload 6, 2) := dcu_21 (by decide +kernel)
theorem dX11_leftOf_69 : decode cX11_leftOf 69 = .ok (.iload_n 3, 1) := dc1_29 (by decide +kernel)
theorem dX11_leftOf_70 : decode cX11_leftOf 70 = .ok (.imul, 1) := dc1_104 (by decide +kernel)
theorem dX11_leftOf_71 : decode cX11_leftOf 71 = .ok (.istore_n 2, 1) := dc1_61 (by decide +kernel)
theorem dX11_leftOf_72 : decode cX11_leftOf 72 = .ok (.iload 6, 2) := dcu_21 (by decide +kernel)
theorem dX11_leftOf_74 : decode cX11_leftOf 74 = .ok (.iload 5, 2) := dcu_21 (by decide +kernel)
theorem dX11_leftOf_76 : decode cX11_leftOf 76 = .ok (.invokestatic 312, 3) := dcw_184 (by decide +kernel)
theorem dX11_leftOf_79 : decode cX11_leftOf 79 = .ok (.if_icmp .ne 5, 3) := dcs_160 (n := 5) (by decide +kernel)
theorem dX11_leftOf_82 : decode cX11_leftOf 82 = .ok (.iload_n 2, 1) := dc1_28 (by decide +kernel)
theorem dX11_leftOf_83 : decode cX11_leftOf 83 = .ok (.ireturn, 1) := dc1_172 (by decide +kernel)
theorem dX11_leftOf_84 : decode cX11_leftOf 84 = .ok (.iinc 4 1, 3) := dc_iinc (m := 1) (by decide +kernel)
theorem dX11_leftOf_87 : decode cX11_leftOf 87 = .ok (.goto (-77), 3) := dcs_167 (n := 65459) (by decide +kernel)
theorem dX11_leftOf_90 : decode cX11_leftOf 90 = .ok (.iload_n 2, 1) := dc1_28 (by decide +kernel)
theorem dX11_leftOf_91 : decode cX11_leftOf 91 = .ok (.iconst 1, 1) := dc1_4 (by decide +kernel)
theorem dX11_leftOf_92 : decode cX11_leftOf 92 = .ok (.if_icmp .le 7, 3) := dcs_164 (n := 7) (by decide +kernel)
theorem dX11_leftOf_95 : decode cX11_leftOf 95 = .ok (.iload_n 2, 1) := dc1_28 (by decide +kernel)
theorem dX11_leftOf_96 : decode cX11_leftOf 96 = .ok (.goto 4, 3) := dcs_167 (n := 4) (by decide +kernel)
theorem dX11_leftOf_99 : decode cX11_leftOf 99 = .ok (.iconst 1, 1) := dc1_4 (by decide +kernel)
theorem dX11_leftOf_100 : decode cX11_leftOf 100 = .ok (.ireturn, 1) := dc1_172 (by decide +kernel)
theorem ggX11_left_X11_isGuess : GoodIn wsX11_left wsX11_isGuess := gi_sub (fun w h => List.mem_cons_of_mem _ (List.mem_append_left _ (List.mem_append_right _ (List.mem_append_left _ h)))) gd_wsX11_isGuess
set_option maxRecDepth 20000 in
theorem gX11_left_X11_isGuess : GoodIn wsX11_left (wsV RX11 367 RX11 yX11_isGuess wsX11_isGuess) := goodIn_app (goodIn_r _ [1, 2, 3, 4] (by decide +kernel) (by decide +kernel)) ggX11_left_X11_isGuess
theorem ggX11_left_X11_copies : GoodIn wsX11_left wsX11_copies := gi_sub (fun w h => List.mem_cons_of_mem _ (List.mem_append_left _ (List.mem_append_right _ (List.mem_append_right _ (List.mem_append_left _ h))))) gd_wsX11_copies
set_option maxRecDepth 20000 in
theorem gX11_left_X11_copies : GoodIn wsX11_left (wsV RX11 352 RX11 yX11_copies wsX11_copies) := goodIn_app (goodIn_r _ [5, 6, 7, 4] (by decide +kernel) (by decide +kernel)) ggX11_left_X11_copies
theorem ggX11_left_X11_casesNow : GoodIn wsX11_left wsX11_casesNow := gi_sub (fun w h => List.mem_cons_of_mem _ (List.mem_append_left _ (List.mem_append_right _ (List.mem_append_right _ (List.mem_append_right _ (List.mem_append_left _ h)))))) gd_wsX11_casesNow
set_option maxRecDepth 20000 in
theorem gX11_left_X11_casesNow : GoodIn wsX11_left (wsV RX11 385 RX11 yX11_casesNow wsX11_casesNow) := goodIn_app (goodIn_r _ [8, 9, 10, 4] (by decide +kernel) (by decide +kernel)) ggX11_left_X11_casesNow
theorem ggX11_left_X11_leftOf : GoodIn wsX11_left wsX11_leftOf := gi_sub (fun w h => List.mem_cons_of_mem _ (List.mem_append_left _ (List.mem_append_right _ (List.mem_append_right _ (List.mem_append_right _ (List.mem_append_right _ h)))))) gd_wsX11_leftOf
set_option maxRecDepth 20000 in
theorem gX11_left_X11_leftOf : GoodIn wsX11_left (wsV RX11 401 RX11 yX11_leftOf wsX11_leftOf) := goodIn_app (goodIn_r _ [11, 12, 13, 4] (by decide +kernel) (by decide +kernel)) ggX11_left_X11_leftOf
theorem dX11_left_0 : decode cX11_left 0 = .ok (.aload_n 0, 1) := dc1_42 (by decide +kernel)
theorem dX11_left_1 : decode cX11_left 1 = .ok (.iload_n 1, 1) := dc1_27 (by decide +kernel)
theorem dX11_left_2 : decode cX11_left 2 = .ok (.invokevirtual 367, 3) := dcw_182 (by decide +kernel)
theorem dX11_left_5 : decode cX11_left 5 = .ok (.ifCond .ne 5, 3) := dcs_154 (n := 5) (by decide +kernel)
theorem dX11_left_8 : decode cX11_left 8 = .ok (.iconst (-1), 1) := dc1_2 (by decide +kernel)
theorem dX11_left_9 : decode cX11_left 9 = .ok (.ireturn, 1) := dc1_172 (by decide +kernel)
theorem dX11_left_10 : decode cX11_left 10 = .ok (.aload_n 0, 1) := dc1_42 (by decide +kernel)
theorem dX11_left_11 : decode cX11_left 11 = .ok (.invokevirtual 352, 3) := dcw_182 (by decide +kernel)
theorem dX11_left_14 : decode cX11_left 14 = .ok (.aload_n 0, 1) := dc1_42 (by decide +kernel)
theorem dX11_left_15 : decode cX11_left 15 = .ok (.invokevirtual 385, 3) := dcw_182 (by decide +kernel)
theorem dX11_left_18 : decode cX11_left 18 = .ok (.ifCond .ne 8, 3) := dcs_154 (n := 8) (by decide +kernel)
theorem dX11_left_21 : decode cX11_left 21 = .ok (.bipush (-2), 2) := dcb_16 (n := 254) (by decide +kernel)
theorem dX11_left_23 : decode cX11_left 23 = .ok (.goto 8, 3) := dcs_167 (n := 8) (by decide +kernel)
theorem dX11_left_26 : decode cX11_left 26 = .ok (.aload_n 0, 1) := dc1_42 (by decide +kernel)
theorem dX11_left_27 : decode cX11_left 27 = .ok (.iload_n 1, 1) := dc1_27 (by decide +kernel)
theorem dX11_left_28 : decode cX11_left 28 = .ok (.invokevirtual 401, 3) := dcw_182 (by decide +kernel)
theorem dX11_left_31 : decode cX11_left 31 = .ok (.ireturn, 1) := dc1_172 (by decide +kernel)
theorem ggX11_wisest_X11_in : GoodIn wsX11_wisest wsX11_in := gi_sub (fun w h => List.mem_cons_of_mem _ (List.mem_append_left _ (List.mem_append_right _ (List.mem_append_left _ h)))) gd_wsX11_in
set_option maxRecDepth 20000 in
theorem gX11_wisest_X11_in : GoodIn wsX11_wisest (va_wsS RX11 281 yX11_in wsX11_in) := goodIn_app (goodIn_of _ (by decide +kernel)) ggX11_wisest_X11_in
theorem ggX11_wisest_X11_copies : GoodIn wsX11_wisest wsX11_copies := gi_sub (fun w h => List.mem_cons_of_mem _ (List.mem_append_left _ (List.mem_append_right _ (List.mem_append_right _ (List.mem_append_left _ h))))) gd_wsX11_copies
set_option maxRecDepth 20000 in
theorem gX11_wisest_X11_copies : GoodIn wsX11_wisest (wsV RX11 352 RX11 yX11_copies wsX11_copies) := goodIn_app (goodIn_r _ [4, 5, 6, 3] (by decide +kernel) (by decide +kernel)) ggX11_wisest_X11_copies
theorem ggX11_wisest_X11_casesNow : GoodIn wsX11_wisest wsX11_casesNow := gi_sub (fun w h => List.mem_cons_of_mem _ (List.mem_append_left _ (List.mem_append_right _ (List.mem_append_right _ (List.mem_append_right _ (List.mem_append_left _ h)))))) gd_wsX11_casesNow
set_option maxRecDepth 20000 in
theorem gX11_wisest_X11_casesNow : GoodIn wsX11_wisest (wsV RX11 385 RX11 yX11_casesNow wsX11_casesNow) := goodIn_app (goodIn_r _ [7, 8, 9, 3] (by decide +kernel) (by decide +kernel)) ggX11_wisest_X11_casesNow
theorem ggX11_wisest_X11_leftOf : GoodIn wsX11_wisest wsX11_leftOf := gi_sub (fun w h => List.mem_cons_of_mem _ (List.mem_append_left _ (List.mem_append_right _ (List.mem_append_right _ (List.mem_append_right _ (List.mem_append_right _ (List.mem_append_left _ h))))))) gd_wsX11_leftOf
set_option maxRecDepth 20000 in
theorem gX11_wisest_X11_leftOf : GoodIn wsX11_wisest (wsV RX11 401 RX11 yX11_leftOf wsX11_leftOf) := goodIn_app (goodIn_r _ [10, 11, 12, 3] (by decide +kernel) (by decide +kernel)) ggX11_wisest_X11_leftOf
theorem ggX11_wisest_X11_guesses : GoodIn wsX11_wisest wsX11_guesses := gi_sub (fun w h => List.mem_cons_of_mem _ (List.mem_append_left _ (List.mem_append_right _ (List.mem_append_right _ (List.mem_append_right _ (List.mem_append_right _ (List.mem_append_right _ h))))))) gd_wsX11_guesses
set_option maxRecDepth 20000 in
theorem gX11_wisest_X11_guesses : GoodIn wsX11_wisest (wsV RX11 285 RX11 yX11_guesses wsX11_guesses) := goodIn_app (goodIn_r _ [13, 14, 15, 3] (by decide +kernel) (by decide +kernel)) ggX11_wisest_X11_guesses
theorem dX11_wisest_0 : decode cX11_wisest 0 = .ok (.iload_n 1, 1) := dc1_27 (by decide +kernel)
theorem dX11_wisest_1 : decode cX11_wisest 1 = .ok (.iconst 0, 1) := dc1_3 (by decide +kernel)
theorem dX11_wisest_2 : decode cX11_wisest 2 = .ok (.iconst 1, 1) := dc1_4 (by decide +kernel)
theorem dX11_wisest_3 : decode cX11_wisest 3 = .ok (.invokestatic 281, 3) := dcw_184 (by decide +kernel)
theorem dX11_wisest_6 : decode cX11_wisest 6 = .ok (.ifCond .ne 5, 3) := dcs_154 (n := 5) (by decide +kernel)
theorem dX11_wisest_9 : decode cX11_wisest 9 = .ok (.iconst (-1), 1) := dc1_2 (by decide +kernel)
theorem dX11_wisest_10 : decode cX11_wisest 10 = .ok (.ireturn, 1) := dc1_172 (by decide +kernel)
theorem dX11_wisest_11 : decode cX11_wisest 11 = .ok (.aload_n 0, 1) := dc1_42 (by decide +kernel)
theorem dX11_wisest_12 : decode cX11_wisest 12 = .ok (.invokevirtual 352, 3) := dcw_182 (by decide +kernel)
theorem dX11_wisest_15 : decode cX11_wisest 15 = .ok (.aload_n 0, 1) := dc1_42 (by decide +kernel)
theorem dX11_wisest_16 : decode cX11_wisest 16 = .ok (.invokevirtual 385, 3) := dcw_182 (by decide +kernel)
theorem dX11_wisest_19 : decode cX11_wisest 19 = .ok (.ifCond .ne 6, 3) := dcs_154 (n := 6) (by decide +kernel)
theorem dX11_wisest_22 : decode cX11_wisest 22 = .ok (.bipush (-2), 2) := dcb_16 (n := 254) (by decide +kernel)
theorem dX11_wisest_24 : decode cX11_wisest 24 = .ok (.ireturn, 1) := dc1_172 (by decide +kernel)
theorem dX11_wisest_25 : decode cX11_wisest 25 = .ok (.iconst 0, 1) := dc1_3 (by decide +kernel)
theorem dX11_wisest_26 : decode cX11_wisest 26 = .ok (.istore_n 2, 1) := dc1_61 (by decide +kernel)
theorem dX11_wisest_27 : decode cX11_wisest 27 = .ok (.aload_n 0, 1) := dc1_42 (by decide +kernel)
theorem dX11_wisest_28 : decode cX11_wisest 28 = .ok (.iconst 0, 1) := dc1_3 (by decide +kernel)
theorem dX11_wisest_29 : decode cX11_wisest 29 = .ok (.invokevirtual 401, 3) := dcw_182 (by decide +kernel)
theorem dX11_wisest_32 : decode cX11_wisest 32 = .ok (.istore_n 3, 1) := dc1_62 (by decide +kernel)
theorem dX11_wisest_33 : decode cX11_wisest 33 = .ok (.iconst 1, 1) := dc1_4 (by decide +kernel)
theorem dX11_wisest_34 : decode cX11_wisest 34 = .ok (.istore 4, 2) := dcu_54 (by decide +kernel)
theorem dX11_wisest_36 : decode cX11_wisest 36 = .ok (.iload 4, 2) := dcu_21 (by decide +kernel)
theorem dX11_wisest_38 : decode cX11_wisest 38 = .ok (.aload_n 0, 1) := dc1_42 (by decide +kernel)
theorem dX11_wisest_39 : decode cX11_wisest 39 = .ok (.invokevirtual 285, 3) := dcw_182 (by decide +kernel)
theorem dX11_wisest_42 : decode cX11_wisest 42 = .ok (.if_icmp .ge 32, 3) := dcs_162 (n := 32) (by decide +kernel)
theorem dX11_wisest_45 : decode cX11_wisest 45 = .ok (.aload_n 0, 1) := dc1_42 (by decide +kernel)
theorem dX11_wisest_46 : decode cX11_wisest 46 = .ok (.iload 4, 2) := dcu_21 (by decide +kernel)
theorem dX11_wisest_48 : decode cX11_wisest 48 = .ok (.invokevirtual 401, 3) := dcw_182 (by decide +kernel)
theorem dX11_wisest_51 : decode cX11_wisest 51 = .ok (.istore 5, 2) := dcu_54 (by decide +kernel)
theorem dX11_wisest_53 : decode cX11_wisest 53 = .ok (.iload 5, 2) := dcu_21 (by decide +kernel)
theorem dX11_wisest_55 : decode cX11_wisest 55 = .ok (.iload_n 3, 1) := dc1_29 (by decide +kernel)
theorem dX11_wisest_56 : decode cX11_wisest 56 = .ok (.if_icmp .lt 6, 3) := dcs_161 (n := 6) (by decide +kernel)
theorem dX11_wisest_59 : decode cX11_wisest 59 = .ok (.goto 9, 3) := dcs_167 (n := 9) (by decide +kernel)
theorem dX11_wisest_62 : decode cX11_wisest 62 = .ok (.iload 4, 2) := dcu_21 (by decide +kernel)
theorem dX11_wisest_64 : decode cX11_wisest 64 = .ok (.istore_n 2, 1) := dc1_61 (by decide +kernel)
theorem dX11_wisest_65 : decode cX11_wisest 65 = .ok (.iload 5, 2) := dcu_21 (by decide +kernel)
theorem dX11_wisest_67 : decode cX11_wisest 67 = .ok (.istore_n 3, 1) := dc1_62 (by decide +kernel)
theorem dX11_wisest_68 : decode cX11_wisest 68 = .ok (.iinc 4 1, 3) := dc_iinc (m := 1) (by decide +kernel)
theorem dX11_wisest_71 : decode cX11_wisest 71 = .ok (.goto (-35), 3) := dcs_167 (n := 65501) (by decide +kernel)
theorem dX11_wisest_74 : decode cX11_wisest 74 = .ok (.iload_n 1, 1) := dc1_27 (by decide +kernel)
theorem dX11_wisest_75 : decode cX11_wisest 75 = .ok (.ifCond .ne 7, 3) := dcs_154 (n := 7) (by decide +kernel)
theorem dX11_wisest_78 : decode cX11_wisest 78 = .ok (.iload_n 2, 1) := dc1_28 (by decide +kernel)
theorem dX11_wisest_79 : decode cX11_wisest 79 = .ok (.goto 4, 3) := dcs_167 (n := 4) (by decide +kernel)
theorem dX11_wisest_82 : decode cX11_wisest 82 = .ok (.iload_n 3, 1) := dc1_29 (by decide +kernel)
theorem dX11_wisest_83 : decode cX11_wisest 83 = .ok (.ireturn, 1) := dc1_172 (by decide +kernel)
theorem LX11_bestFor_104 : Cond.fieldLink RX11 104 "GuessFerryModel" "sixes" "[I" ∈ wsX11_bestFor := (List.mem_cons_of_mem _ (List.mem_append_left _ (List.mem_append_left _ (List.mem_of_getElem? (i := 2) rfl))))
theorem LX11_bestFor_215 : Cond.fieldLink RX11 215 "GuessFerryModel" "live" "I" ∈ wsX11_bestFor := (List.mem_cons_of_mem _ (List.mem_append_left _ (List.mem_append_left _ (List.mem_of_getElem? (i := 1) rfl))))
theorem LX11_bestFor_40 : Cond.fieldLink RX11 40 "GuessFerryModel" "waves" "[I" ∈ wsX11_bestFor := (List.mem_cons_of_mem _ (List.mem_append_left _ (List.mem_append_left _ (List.mem_of_getElem? (i := 0) rfl))))
theorem inX11_bestFor_X11 : ∀ w ∈ u_ws RX11 TX11 58, w ∈ wsX11_bestFor := fun w h => (List.mem_cons_of_mem _ (List.mem_append_right _ h))
set_option maxHeartbeats 4000000 in
set_option maxRecDepth 100000 in
theorem br_bestFor_83 {l : Launch} {dC : Nat → ClassId} {dI : Nat → Nat → Nat} {cB cI cJ cZ cS : ClassId} {h : Nat} {a : Nat → Nat} {as : List Value} {r : Int32} {s' : RS} {k4 : RS → Int32 → Int32 → Int32 → Option (Int32 × RS)} {k24 : RS → Int32 → Int32 → Int32 → Int32 → Int32 → Option (Int32 × RS)} (hk4 : ∀ (s : RS) (x1 : Int32) (x2 : Int32) (x3 : Int32), k4 s x1 x2 x3 = some (r, s') → BlkI l yX11_bestFor wsX11_bestFor ({ frames := 5, cells := 0, slots := 0, locals := 112 }) cX11_bestFor 6 (some .int) (dC, dI) (tysA cB cI cJ cZ cS) as 4 (mwS cB cI cJ cZ h a s) [(0, .ref h), (1, .int x1), (2, .int x2), (3, .int x3)] [] (fun x u => x = r ∧ u = (mwS cB cI cJ cZ h a s'))) (hk24 : ∀ (s : RS) (x1 : Int32) (x2 : Int32) (x3 : Int32) (x4 : Int32) (x5 : Int32), k24 s x1 x2 x3 x4 x5 = some (r, s') → BlkI l yX11_bestFor wsX11_bestFor ({ frames := 5, cells := 0, slots := 0, locals := 112 }) cX11_bestFor 6 (some .int) (dC, dI) (tysA cB cI cJ cZ cS) as 24 (mwS cB cI cJ cZ h a s) [(0, .ref h), (1, .int x1), (2, .int x2), (3, .int x3), (4, .int x4), (5, .int x5)] [] (fun x u => x = r ∧ u = (mwS cB cI cJ cZ h a s'))) (s : RS) (x1 : Int32) (x2 : Int32) (x3 : Int32) (x4 : Int32) (x5 : Int32) (hB : r_bestFor_83 k4 k24 s x1 x2 x3 x4 x5 = some (r, s')) : BlkI l yX11_bestFor wsX11_bestFor ({ frames := 5, cells := 0, slots := 0, locals := 112 }) cX11_bestFor 6 (some .int) (dC, dI) (tysA cB cI cJ cZ cS) as 83 (mwS cB cI cJ cZ h a s) [(0, .ref h), (1, .int x1), (2, .int x2), (3, .int x3), (4, .int x4), (5, .int x5)] [] (fun x u => x = r ∧ u = (mwS cB cI cJ cZ h a s')) := by
  intro p e s0 m below meth c A E H locs ls hP hD hS hl
  obtain ⟨C, hr, hlocks, hA, hK, hN⟩ := id E
  obtain ⟨hx, hb, hml, hown, hts⟩ := id C
  unfold r_bestFor_83 at hB
  refine lv_iinc (v := (x5 + 1)) (lv' := [(5, .int (x5 + 1)), (0, .ref h), (1, .int x1), (2, .int x2), (3, .int x3), (4, .int x4)]) hx hb dX11_bestFor_83 hl (k := 5) rfl (rfl) (by decide) rfl (fun ls hl => ?_)
  refine lv_goto (tgt := 24) hx hb dX11_bestFor_86 (by decide) ?_
  exact hk24 _ _ _ _ _ _ hB p e s0 m below meth c A E H locs ls hP hD hS (lv_sub hl [1, 2, 3, 4, 5, 0] rfl)
set_option maxHeartbeats 4000000 in
set_option maxRecDepth 100000 in
theorem br_bestFor_79 {l : Launch} {dC : Nat → ClassId} {dI : Nat → Nat → Nat} {cB cI cJ cZ cS : ClassId} {h : Nat} {a : Nat → Nat} {as : List Value} {r : Int32} {s' : RS} {k4 : RS → Int32 → Int32 → Int32 → Option (Int32 × RS)} {k24 : RS → Int32 → Int32 → Int32 → Int32 → Int32 → Option (Int32 × RS)} (hk4 : ∀ (s : RS) (x1 : Int32) (x2 : Int32) (x3 : Int32), k4 s x1 x2 x3 = some (r, s') → BlkI l yX11_bestFor wsX11_bestFor ({ frames := 5, cells := 0, slots := 0, locals := 112 }) cX11_bestFor 6 (some .int) (dC, dI) (tysA cB cI cJ cZ cS) as 4 (mwS cB cI cJ cZ h a s) [(0, .ref h), (1, .int x1), (2, .int x2), (3, .int x3)] [] (fun x u => x = r ∧ u = (mwS cB cI cJ cZ h a s'))) (hk24 : ∀ (s : RS) (x1 : Int32) (x2 : Int32) (x3 : Int32) (x4 : Int32) (x5 : Int32), k24 s x1 x2 x3 x4 x5 = some (r, s') → BlkI l yX11_bestFor wsX11_bestFor ({ frames := 5, cells := 0, slots := 0, locals := 112 }) cX11_bestFor 6 (some .int) (dC, dI) (tysA cB cI cJ cZ cS) as 24 (mwS cB cI cJ cZ h a s) [(0, .ref h), (1, .int x1), (2, .int x2), (3, .int x3), (4, .int x4), (5, .int x5)] [] (fun x u => x = r ∧ u = (mwS cB cI cJ cZ h a s'))) (s : RS) (x1 : Int32) (x2 : Int32) (x3 : Int32) (x5 : Int32) (hB : r_bestFor_79 k4 k24 s x1 x2 x3 x5 = some (r, s')) : BlkI l yX11_bestFor wsX11_bestFor ({ frames := 5, cells := 0, slots := 0, locals := 112 }) cX11_bestFor 6 (some .int) (dC, dI) (tysA cB cI cJ cZ cS) as 79 (mwS cB cI cJ cZ h a s) [(0, .ref h), (1, .int x1), (2, .int x2), (3, .int x3), (5, .int x5)] [] (fun x u => x = r ∧ u = (mwS cB cI cJ cZ h a s')) := by
  intro p e s0 m below meth c A E H locs ls hP hD hS hl
  obtain ⟨C, hr, hlocks, hA, hK, hN⟩ := id E
  obtain ⟨hx, hb, hml, hown, hts⟩ := id C
  unfold r_bestFor_79 at hB
  refine lv_iload hx hb dX11_bestFor_79 (lv_at hl 4 rfl) ?_
  refine lv_istore (lv' := [(4, .int x5), (0, .ref h), (1, .int x1), (2, .int x2), (3, .int x3), (5, .int x5)]) hx hb dX11_bestFor_81 hl (by decide) rfl (fun ls hl => ?_)
  exact br_bestFor_83 (hk4) (hk24) _ _ _ _ _ _ hB p e s0 m below meth c A E H locs ls hP hD hS (lv_sub hl [1, 2, 3, 4, 0, 5] rfl)
set_option maxHeartbeats 4000000 in
set_option maxRecDepth 100000 in
theorem br_bestFor_57 {l : Launch} {dC : Nat → ClassId} {dI : Nat → Nat → Nat} {cB cI cJ cZ cS : ClassId} {h : Nat} {a : Nat → Nat} {as : List Value} {r : Int32} {s' : RS} {k4 : RS → Int32 → Int32 → Int32 → Option (Int32 × RS)} {k24 : RS → Int32 → Int32 → Int32 → Int32 → Int32 → Option (Int32 × RS)} (hk4 : ∀ (s : RS) (x1 : Int32) (x2 : Int32) (x3 : Int32), k4 s x1 x2 x3 = some (r, s') → BlkI l yX11_bestFor wsX11_bestFor ({ frames := 5, cells := 0, slots := 0, locals := 112 }) cX11_bestFor 6 (some .int) (dC, dI) (tysA cB cI cJ cZ cS) as 4 (mwS cB cI cJ cZ h a s) [(0, .ref h), (1, .int x1), (2, .int x2), (3, .int x3)] [] (fun x u => x = r ∧ u = (mwS cB cI cJ cZ h a s'))) (hk24 : ∀ (s : RS) (x1 : Int32) (x2 : Int32) (x3 : Int32) (x4 : Int32) (x5 : Int32), k24 s x1 x2 x3 x4 x5 = some (r, s') → BlkI l yX11_bestFor wsX11_bestFor ({ frames := 5, cells := 0, slots := 0, locals := 112 }) cX11_bestFor 6 (some .int) (dC, dI) (tysA cB cI cJ cZ cS) as 24 (mwS cB cI cJ cZ h a s) [(0, .ref h), (1, .int x1), (2, .int x2), (3, .int x3), (4, .int x4), (5, .int x5)] [] (fun x u => x = r ∧ u = (mwS cB cI cJ cZ h a s'))) (s : RS) (x1 : Int32) (x2 : Int32) (x3 : Int32) (x4 : Int32) (x5 : Int32) (hB : r_bestFor_57 k4 k24 s x1 x2 x3 x4 x5 = some (r, s')) : BlkI l yX11_bestFor wsX11_bestFor ({ frames := 5, cells := 0, slots := 0, locals := 112 }) cX11_bestFor 6 (some .int) (dC, dI) (tysA cB cI cJ cZ cS) as 57 (mwS cB cI cJ cZ h a s) [(0, .ref h), (1, .int x1), (2, .int x2), (3, .int x3), (4, .int x4), (5, .int x5)] [] (fun x u => x = r ∧ u = (mwS cB cI cJ cZ h a s')) := by
  intro p e s0 m below meth c A E H locs ls hP hD hS hl
  obtain ⟨C, hr, hlocks, hA, hK, hN⟩ := id E
  obtain ⟨hx, hb, hml, hown, hts⟩ := id C
  unfold r_bestFor_57 at hB
  refine lv_iload hx hb dX11_bestFor_57 (lv_at hl 4 rfl) ?_
  refine lv_if_lt (tgt := 79) hx hb dX11_bestFor_59 (by decide) (fun c1 => ?_) (fun c1 => ?_)
  · have hB := if_p hB c1
    exact br_bestFor_79 (hk4) (hk24) _ _ _ _ _ hB p e s0 m below meth c A E H locs ls hP hD hS (lv_sub hl [0, 1, 2, 3, 5] rfl)
  · have hB := if_n hB c1
    refine lv_aload_n hx hb dX11_bestFor_62 rfl (lv_at hl 0 rfl) ?_
    refine lv_iload_n hx hb dX11_bestFor_63 rfl (lv_at hl 3 rfl) ?_
    refine lv_iload hx hb dX11_bestFor_64 (lv_at hl 5 rfl) ?_
    obtain ⟨q_, s2, hc, hB⟩ := bindI_inv hB
    refine q_goiF (va_runV (As := [.int x3, .int x5]) (rest := []) C (cr_oddsAt hc _) (cwV 2 hts gX11_bestFor_X11_oddsAt rfl rfl rfl (by decide +kernel) ⟨Nat.le_of_ble_eq_true rfl, Nat.le_of_ble_eq_true rfl⟩) (q_preV hK hP (ci := 11) (q0 := 0) rfl rfl rfl (q_preF hN hK hP hD)) rfl rfl hl.1 rfl (lv_room (Nat.le_of_ble_eq_true rfl)) dX11_bestFor_66 ⟨Nat.le_of_ble_eq_true rfl, Nat.le_of_ble_eq_true rfl⟩) hD hS hA (fun r3 w1 H locs hw hP hD hS => ?_)
    obtain ⟨hq_, hw⟩ := hw; subst hw; subst hq_
    refine lv_aload_n hx hb dX11_bestFor_69 rfl (lv_at hl 0 rfl) ?_
    refine lv_iload_n hx hb dX11_bestFor_70 rfl (lv_at hl 3 rfl) ?_
    refine lv_iload hx hb dX11_bestFor_71 (lv_at hl 4 rfl) ?_
    obtain ⟨q_, s4, hc, hB⟩ := bindI_inv hB
    refine q_goiF (va_runV (As := [.int x3, .int x4]) (rest := [.int r3]) C (cr_oddsAt hc _) (cwV 2 hts gX11_bestFor_X11_oddsAt rfl rfl rfl (by decide +kernel) ⟨Nat.le_of_ble_eq_true rfl, Nat.le_of_ble_eq_true rfl⟩) (q_preV hK hP (ci := 11) (q0 := 0) rfl rfl rfl (q_preF hN hK hP hD)) rfl rfl hl.1 rfl (lv_room (Nat.le_of_ble_eq_true rfl)) dX11_bestFor_73 ⟨Nat.le_of_ble_eq_true rfl, Nat.le_of_ble_eq_true rfl⟩) hD hS hA (fun r5 w1 H locs hw hP hD hS => ?_)
    obtain ⟨hq_, hw⟩ := hw; subst hw; subst hq_
    refine lv_icmp_le (tgt := 83) hx hb dX11_bestFor_76 (by decide) (fun c6 => ?_) (fun c6 => ?_)
    · have hB := if_p hB c6
      exact br_bestFor_83 (hk4) (hk24) _ _ _ _ _ _ hB p e s0 m below meth c A E H locs ls hP hD hS (lv_sub hl [0, 1, 2, 3, 4, 5] rfl)
    · have hB := if_n hB c6
      exact br_bestFor_79 (hk4) (hk24) _ _ _ _ _ hB p e s0 m below meth c A E H locs ls hP hD hS (lv_sub hl [0, 1, 2, 3, 5] rfl)
set_option maxHeartbeats 4000000 in
set_option maxRecDepth 100000 in
theorem br_bestFor_24 {l : Launch} {dC : Nat → ClassId} {dI : Nat → Nat → Nat} {cB cI cJ cZ cS : ClassId} {h : Nat} {a : Nat → Nat} {as : List Value} {r : Int32} {s' : RS} {k4 : RS → Int32 → Int32 → Int32 → Option (Int32 × RS)} {k24 : RS → Int32 → Int32 → Int32 → Int32 → Int32 → Option (Int32 × RS)} (hk4 : ∀ (s : RS) (x1 : Int32) (x2 : Int32) (x3 : Int32), k4 s x1 x2 x3 = some (r, s') → BlkI l yX11_bestFor wsX11_bestFor ({ frames := 5, cells := 0, slots := 0, locals := 112 }) cX11_bestFor 6 (some .int) (dC, dI) (tysA cB cI cJ cZ cS) as 4 (mwS cB cI cJ cZ h a s) [(0, .ref h), (1, .int x1), (2, .int x2), (3, .int x3)] [] (fun x u => x = r ∧ u = (mwS cB cI cJ cZ h a s'))) (hk24 : ∀ (s : RS) (x1 : Int32) (x2 : Int32) (x3 : Int32) (x4 : Int32) (x5 : Int32), k24 s x1 x2 x3 x4 x5 = some (r, s') → BlkI l yX11_bestFor wsX11_bestFor ({ frames := 5, cells := 0, slots := 0, locals := 112 }) cX11_bestFor 6 (some .int) (dC, dI) (tysA cB cI cJ cZ cS) as 24 (mwS cB cI cJ cZ h a s) [(0, .ref h), (1, .int x1), (2, .int x2), (3, .int x3), (4, .int x4), (5, .int x5)] [] (fun x u => x = r ∧ u = (mwS cB cI cJ cZ h a s'))) (s : RS) (x1 : Int32) (x2 : Int32) (x3 : Int32) (x4 : Int32) (x5 : Int32) (hB : r_bestFor_24 k4 k24 s x1 x2 x3 x4 x5 = some (r, s')) : BlkI l yX11_bestFor wsX11_bestFor ({ frames := 5, cells := 0, slots := 0, locals := 112 }) cX11_bestFor 6 (some .int) (dC, dI) (tysA cB cI cJ cZ cS) as 24 (mwS cB cI cJ cZ h a s) [(0, .ref h), (1, .int x1), (2, .int x2), (3, .int x3), (4, .int x4), (5, .int x5)] [] (fun x u => x = r ∧ u = (mwS cB cI cJ cZ h a s')) := by
  intro p e s0 m below meth c A E H locs ls hP hD hS hl
  obtain ⟨C, hr, hlocks, hA, hK, hN⟩ := id E
  obtain ⟨hx, hb, hml, hown, hts⟩ := id C
  unfold r_bestFor_24 at hB
  refine lv_iload hx hb dX11_bestFor_24 (lv_at hl 5 rfl) ?_
  refine lv_bipush (v := 6) hx hb dX11_bestFor_26 (by decide) ?_
  refine lv_icmp_ge (tgt := 89) hx hb dX11_bestFor_28 (by decide) (fun c1 => ?_) (fun c1 => ?_)
  · have hB := if_p hB c1
    refine lv_iload hx hb dX11_bestFor_89 (lv_at hl 4 rfl) ?_
    refine lv_if_ge (tgt := 97) hx hb dX11_bestFor_91 (by decide) (fun c2 => ?_) (fun c2 => ?_)
    · have hB := if_p hB c2
      refine lv_iload_n hx hb dX11_bestFor_97 rfl (lv_at hl 2 rfl) ?_
      refine lv_aload_n hx hb dX11_bestFor_98 rfl (lv_at hl 0 rfl) ?_
      refine q_get (v := .ref (a 46)) C inX11_bestFor_X11 hK hP 0 rfl rfl 46 (by decide) rfl LX11_bestFor_104 rfl dX11_bestFor_99 ?_
      refine lv_iload_n hx hb dX11_bestFor_102 rfl (lv_at hl 3 rfl) ?_
      obtain ⟨g3, hB⟩ := guard_inv hB
      refine q_iald (x := (s.f 46 (Int32.toNatClampNeg x3))) C hK hP 29 1 rfl rfl (vpb_in g3) dX11_bestFor_103 rfl ?_
      refine lv_iload hx hb dX11_bestFor_104 (lv_at hl 4 rfl) ?_
      refine lv_imul hx hb dX11_bestFor_106 ?_
      refine lv_iadd hx hb dX11_bestFor_107 ?_
      refine lv_istore_n (lv' := [(2, .int (x2 + ((s.f 46 (Int32.toNatClampNeg x3)) * x4))), (0, .ref h), (1, .int x1), (3, .int x3), (4, .int x4), (5, .int x5)]) hx hb dX11_bestFor_108 rfl hl (by decide) rfl (fun ls hl => ?_)
      refine lv_iinc (v := (x3 + 1)) (lv' := [(3, .int (x3 + 1)), (2, .int (x2 + ((s.f 46 (Int32.toNatClampNeg x3)) * x4))), (0, .ref h), (1, .int x1), (4, .int x4), (5, .int x5)]) hx hb dX11_bestFor_109 hl (k := 3) rfl (rfl) (by decide) rfl (fun ls hl => ?_)
      refine lv_goto (tgt := 4) hx hb dX11_bestFor_112 (by decide) ?_
      exact hk4 _ _ _ _ hB p e s0 m below meth c A E H locs ls hP hD hS (lv_sub hl [2, 3, 1, 0] rfl)
    · have hB := if_n hB c2
      refine lv_bipush (v := (-2)) hx hb dX11_bestFor_94 (by decide) ?_
      exact q_iret C hr hlocks hK hP hD hS (Nat.le_of_ble_eq_true rfl) (Nat.le_of_ble_eq_true rfl) dX11_bestFor_96 (by cases hB; exact ⟨rfl, rfl⟩)
  · have hB := if_n hB c1
    refine lv_aload_n hx hb dX11_bestFor_31 rfl (lv_at hl 0 rfl) ?_
    refine lv_iload_n hx hb dX11_bestFor_32 rfl (lv_at hl 3 rfl) ?_
    refine lv_iload hx hb dX11_bestFor_33 (lv_at hl 5 rfl) ?_
    obtain ⟨q_, s4, hc, hB⟩ := bindI_inv hB
    refine q_goiF (va_runV (As := [.int x3, .int x5]) (rest := []) C (cr_mayBe hc _) (cwV 2 hts gX11_bestFor_X11_mayBe rfl rfl rfl (by decide +kernel) ⟨Nat.le_of_ble_eq_true rfl, Nat.le_of_ble_eq_true rfl⟩) (q_preV hK hP (ci := 11) (q0 := 0) rfl rfl rfl (q_preF hN hK hP hD)) rfl rfl hl.1 rfl (lv_room (Nat.le_of_ble_eq_true rfl)) dX11_bestFor_35 ⟨Nat.le_of_ble_eq_true rfl, Nat.le_of_ble_eq_true rfl⟩) hD hS hA (fun r5 w1 H locs hw hP hD hS => ?_)
    obtain ⟨hq_, hw⟩ := hw; subst hw; subst hq_
    refine lv_if_eq (tgt := 83) hx hb dX11_bestFor_38 (by decide) (fun c6 => ?_) (fun c6 => ?_)
    · have hB := if_p hB c6
      exact br_bestFor_83 (hk4) (hk24) _ _ _ _ _ _ hB p e s0 m below meth c A E H locs ls hP hD hS (lv_sub hl [0, 1, 2, 3, 4, 5] rfl)
    · have hB := if_n hB c6
      refine lv_iload_n hx hb dX11_bestFor_41 rfl (lv_at hl 1 rfl) ?_
      refine lv_iconst (v := (-1)) hx hb dX11_bestFor_42 (by decide) ?_
      refine lv_icmp_eq (tgt := 57) hx hb dX11_bestFor_43 (by decide) (fun c7 => ?_) (fun c7 => ?_)
      · have hB := if_p hB c7
        exact br_bestFor_57 (hk4) (hk24) _ _ _ _ _ _ hB p e s0 m below meth c A E H locs ls hP hD hS (lv_sub hl [0, 1, 2, 3, 4, 5] rfl)
      · have hB := if_n hB c7
        refine lv_aload_n hx hb dX11_bestFor_46 rfl (lv_at hl 0 rfl) ?_
        refine lv_iload_n hx hb dX11_bestFor_47 rfl (lv_at hl 1 rfl) ?_
        refine lv_iload_n hx hb dX11_bestFor_48 rfl (lv_at hl 3 rfl) ?_
        refine lv_iload hx hb dX11_bestFor_49 (lv_at hl 5 rfl) ?_
        obtain ⟨q_, s8, hc, hB⟩ := bindI_inv hB
        refine q_goiF (va_runV (As := [.int x1, .int x3, .int x5]) (rest := []) C (cr_doesBear hc _) (cwV 3 hts gX11_bestFor_X11_doesBear rfl rfl rfl (by decide +kernel) ⟨Nat.le_of_ble_eq_true rfl, Nat.le_of_ble_eq_true rfl⟩) (q_preV hK hP (ci := 11) (q0 := 0) rfl rfl rfl (q_preF hN hK hP hD)) rfl rfl hl.1 rfl (lv_room (Nat.le_of_ble_eq_true rfl)) dX11_bestFor_51 ⟨Nat.le_of_ble_eq_true rfl, Nat.le_of_ble_eq_true rfl⟩) hD hS hA (fun r9 w1 H locs hw hP hD hS => ?_)
        obtain ⟨hq_, hw⟩ := hw; subst hw; subst hq_
        refine lv_if_eq (tgt := 83) hx hb dX11_bestFor_54 (by decide) (fun c10 => ?_) (fun c10 => ?_)
        · have hB := if_p hB c10
          exact br_bestFor_83 (hk4) (hk24) _ _ _ _ _ _ hB p e s0 m below meth c A E H locs ls hP hD hS (lv_sub hl [0, 1, 2, 3, 4, 5] rfl)
        · have hB := if_n hB c10
          exact br_bestFor_57 (hk4) (hk24) _ _ _ _ _ _ hB p e s0 m below meth c A E H locs ls hP hD hS (lv_sub hl [0, 1, 2, 3, 4, 5] rfl)
theorem br_bestFor_24L {l : Launch} {dC : Nat → ClassId} {dI : Nat → Nat → Nat} {cB cI cJ cZ cS : ClassId} {h : Nat} {a : Nat → Nat} {as : List Value} {r : Int32} {s' : RS} {k4 : RS → Int32 → Int32 → Int32 → Option (Int32 × RS)} (hk4 : ∀ (s : RS) (x1 : Int32) (x2 : Int32) (x3 : Int32), k4 s x1 x2 x3 = some (r, s') → BlkI l yX11_bestFor wsX11_bestFor ({ frames := 5, cells := 0, slots := 0, locals := 112 }) cX11_bestFor 6 (some .int) (dC, dI) (tysA cB cI cJ cZ cS) as 4 (mwS cB cI cJ cZ h a s) [(0, .ref h), (1, .int x1), (2, .int x2), (3, .int x3)] [] (fun x u => x = r ∧ u = (mwS cB cI cJ cZ h a s'))) : ∀ (n : Nat) (s : RS) (x1 : Int32) (x2 : Int32) (x3 : Int32) (x4 : Int32) (x5 : Int32), r_bestFor_24L k4 n s x1 x2 x3 x4 x5 = some (r, s') → BlkI l yX11_bestFor wsX11_bestFor ({ frames := 5, cells := 0, slots := 0, locals := 112 }) cX11_bestFor 6 (some .int) (dC, dI) (tysA cB cI cJ cZ cS) as 24 (mwS cB cI cJ cZ h a s) [(0, .ref h), (1, .int x1), (2, .int x2), (3, .int x3), (4, .int x4), (5, .int x5)] [] (fun x u => x = r ∧ u = (mwS cB cI cJ cZ h a s')) := by
  intro n
  induction n with
  | zero => intro s x1 x2 x3 x4 x5 hB; exact none_ne hB
  | succ n ih => intro s x1 x2 x3 x4 x5 hB; exact br_bestFor_24 hk4 ih _ _ _ _ _ _ hB
set_option maxHeartbeats 4000000 in
set_option maxRecDepth 100000 in
theorem br_bestFor_4 {l : Launch} {dC : Nat → ClassId} {dI : Nat → Nat → Nat} {cB cI cJ cZ cS : ClassId} {h : Nat} {a : Nat → Nat} {as : List Value} {r : Int32} {s' : RS} {k4 : RS → Int32 → Int32 → Int32 → Option (Int32 × RS)} (hk4 : ∀ (s : RS) (x1 : Int32) (x2 : Int32) (x3 : Int32), k4 s x1 x2 x3 = some (r, s') → BlkI l yX11_bestFor wsX11_bestFor ({ frames := 5, cells := 0, slots := 0, locals := 112 }) cX11_bestFor 6 (some .int) (dC, dI) (tysA cB cI cJ cZ cS) as 4 (mwS cB cI cJ cZ h a s) [(0, .ref h), (1, .int x1), (2, .int x2), (3, .int x3)] [] (fun x u => x = r ∧ u = (mwS cB cI cJ cZ h a s'))) (s : RS) (x1 : Int32) (x2 : Int32) (x3 : Int32) (hB : r_bestFor_4 k4 s x1 x2 x3 = some (r, s')) : BlkI l yX11_bestFor wsX11_bestFor ({ frames := 5, cells := 0, slots := 0, locals := 112 }) cX11_bestFor 6 (some .int) (dC, dI) (tysA cB cI cJ cZ cS) as 4 (mwS cB cI cJ cZ h a s) [(0, .ref h), (1, .int x1), (2, .int x2), (3, .int x3)] [] (fun x u => x = r ∧ u = (mwS cB cI cJ cZ h a s')) := by
  intro p e s0 m below meth c A E H locs ls hP hD hS hl
  obtain ⟨C, hr, hlocks, hA, hK, hN⟩ := id E
  obtain ⟨hx, hb, hml, hown, hts⟩ := id C
  unfold r_bestFor_4 at hB
  refine lv_iload_n hx hb dX11_bestFor_4 rfl (lv_at hl 3 rfl) ?_
  refine lv_aload_n hx hb dX11_bestFor_5 rfl (lv_at hl 0 rfl) ?_
  refine q_get (v := .ref (a 20)) C inX11_bestFor_X11 hK hP 0 rfl rfl 20 (by decide) rfl LX11_bestFor_40 rfl dX11_bestFor_6 ?_
  refine lv_aload_n hx hb dX11_bestFor_9 rfl (lv_at hl 0 rfl) ?_
  refine q_get (v := .int (s.v 18)) C inX11_bestFor_X11 hK hP 0 rfl rfl 18 (by decide) rfl LX11_bestFor_215 rfl dX11_bestFor_10 ?_
  obtain ⟨g1, hB⟩ := guard_inv hB
  refine q_iald (x := (s.f 20 (Int32.toNatClampNeg (s.v 18)))) C hK hP 8 1 rfl rfl (vpb_in g1) dX11_bestFor_13 rfl ?_
  refine lv_icmp_ge (tgt := 115) hx hb dX11_bestFor_14 (by decide) (fun c2 => ?_) (fun c2 => ?_)
  · have hB := if_p hB c2
    refine lv_iload_n hx hb dX11_bestFor_115 rfl (lv_at hl 2 rfl) ?_
    exact q_iret C hr hlocks hK hP hD hS (Nat.le_of_ble_eq_true rfl) (Nat.le_of_ble_eq_true rfl) dX11_bestFor_116 (by cases hB; exact ⟨rfl, rfl⟩)
  · have hB := if_n hB c2
    refine lv_bipush (v := (-2)) hx hb dX11_bestFor_17 (by decide) ?_
    refine lv_istore (lv' := [(4, .int (-2)), (0, .ref h), (1, .int x1), (2, .int x2), (3, .int x3)]) hx hb dX11_bestFor_19 hl (by decide) rfl (fun ls hl => ?_)
    refine lv_iconst (v := 0) hx hb dX11_bestFor_21 (by decide) ?_
    refine lv_istore (lv' := [(5, .int 0), (4, .int (-2)), (0, .ref h), (1, .int x1), (2, .int x2), (3, .int x3)]) hx hb dX11_bestFor_22 hl (by decide) rfl (fun ls hl => ?_)
    exact br_bestFor_24L (hk4) fu _ _ _ _ _ _ hB p e s0 m below meth c A E H locs ls hP hD hS (lv_sub hl [2, 3, 4, 5, 1, 0] rfl)
theorem br_bestFor_4L {l : Launch} {dC : Nat → ClassId} {dI : Nat → Nat → Nat} {cB cI cJ cZ cS : ClassId} {h : Nat} {a : Nat → Nat} {as : List Value} {r : Int32} {s' : RS} : ∀ (n : Nat) (s : RS) (x1 : Int32) (x2 : Int32) (x3 : Int32), r_bestFor_4L n s x1 x2 x3 = some (r, s') → BlkI l yX11_bestFor wsX11_bestFor ({ frames := 5, cells := 0, slots := 0, locals := 112 }) cX11_bestFor 6 (some .int) (dC, dI) (tysA cB cI cJ cZ cS) as 4 (mwS cB cI cJ cZ h a s) [(0, .ref h), (1, .int x1), (2, .int x2), (3, .int x3)] [] (fun x u => x = r ∧ u = (mwS cB cI cJ cZ h a s')) := by
  intro n
  induction n with
  | zero => intro s x1 x2 x3 hB; exact none_ne hB
  | succ n ih => intro s x1 x2 x3 hB; exact br_bestFor_4 ih _ _ _ _ hB
set_option maxHeartbeats 4000000 in
set_option maxRecDepth 100000 in
theorem br_bestFor {l : Launch} {dC : Nat → ClassId} {dI : Nat → Nat → Nat} {cB cI cJ cZ cS : ClassId} {h : Nat} {a : Nat → Nat} {as : List Value} {r : Int32} {s' : RS} (s : RS) (x1 : Int32) (hB : r_bestFor s x1 = some (r, s')) : BlkI l yX11_bestFor wsX11_bestFor ({ frames := 5, cells := 0, slots := 0, locals := 112 }) cX11_bestFor 6 (some .int) (dC, dI) (tysA cB cI cJ cZ cS) as 0 (mwS cB cI cJ cZ h a s) [(0, .ref h), (1, .int x1)] [] (fun x u => x = r ∧ u = (mwS cB cI cJ cZ h a s')) := by
  intro p e s0 m below meth c A E H locs ls hP hD hS hl
  obtain ⟨C, hr, hlocks, hA, hK, hN⟩ := id E
  obtain ⟨hx, hb, hml, hown, hts⟩ := id C
  unfold r_bestFor at hB
  refine lv_iconst (v := 0) hx hb dX11_bestFor_0 (by decide) ?_
  refine lv_istore_n (lv' := [(2, .int 0), (0, .ref h), (1, .int x1)]) hx hb dX11_bestFor_1 rfl hl (by decide) rfl (fun ls hl => ?_)
  refine lv_iconst (v := 0) hx hb dX11_bestFor_2 (by decide) ?_
  refine lv_istore_n (lv' := [(3, .int 0), (2, .int 0), (0, .ref h), (1, .int x1)]) hx hb dX11_bestFor_3 rfl hl (by decide) rfl (fun ls hl => ?_)
  exact br_bestFor_4L fu _ _ _ _ hB p e s0 m below meth c A E H locs ls hP hD hS (lv_sub hl [2, 3, 1, 0] rfl)
theorem cr_bestFor {l : Launch} {dC : Nat → ClassId} {dI : Nat → Nat → Nat} {cB cI cJ cZ cS : ClassId} {h : Nat} {a : Nat → Nat} {r : Int32} {s' : RS} {s : RS} {x1 : Int32} (hB : r_bestFor s x1 = some (r, s')) : CI l yX11_bestFor wsX11_bestFor ({ frames := 5, cells := 0, slots := 0, locals := 112 }) (dC, dI) (tysA cB cI cJ cZ cS) (mwS cB cI cJ cZ h a s) [.ref h, .int x1] (fun x u => x = r ∧ u = (mwS cB cI cJ cZ h a s')) :=
  CI_of (cc := cX11_bestFor) (maxL := 6) (ret := (some .int)) (by decide) rfl (Nat.le_of_ble_eq_true rfl) (br_bestFor _ _ hB)
set_option maxHeartbeats 4000000 in
set_option maxRecDepth 100000 in
theorem br_likeliest {l : Launch} {dC : Nat → ClassId} {dI : Nat → Nat → Nat} {cB cI cJ cZ cS : ClassId} {h : Nat} {a : Nat → Nat} {as : List Value} {r : Int32} {s' : RS} (s : RS) (hB : r_likeliest s = some (r, s')) : BlkI l yX11_likeliest wsX11_likeliest ({ frames := 6, cells := 0, slots := 0, locals := 137 }) cX11_likeliest 1 (some .int) (dC, dI) (tysA cB cI cJ cZ cS) as 0 (mwS cB cI cJ cZ h a s) [(0, .ref h)] [] (fun x u => x = r ∧ u = (mwS cB cI cJ cZ h a s')) := by
  intro p e s0 m below meth c A E H locs ls hP hD hS hl
  obtain ⟨C, hr, hlocks, hA, hK, hN⟩ := id E
  obtain ⟨hx, hb, hml, hown, hts⟩ := id C
  unfold r_likeliest at hB
  refine lv_aload_n hx hb dX11_likeliest_0 rfl (lv_at hl 0 rfl) ?_
  obtain ⟨s1, hc, hB⟩ := bindP_inv hB
  refine q_govF (va_runV (As := []) (rest := []) C (cr_copies hc _) (cwV 0 hts gX11_likeliest_X11_copies rfl rfl rfl (by decide +kernel) ⟨Nat.le_of_ble_eq_true rfl, Nat.le_of_ble_eq_true rfl⟩) (q_preV hK hP (ci := 11) (q0 := 0) rfl rfl rfl (q_preF hN hK hP hD)) rfl rfl hl.1 rfl (lv_room (Nat.le_of_ble_eq_true rfl)) dX11_likeliest_1 ⟨Nat.le_of_ble_eq_true rfl, Nat.le_of_ble_eq_true rfl⟩) hD hS hA (fun w1 H locs hw hP hD hS => ?_)
  subst hw
  refine lv_aload_n hx hb dX11_likeliest_4 rfl (lv_at hl 0 rfl) ?_
  refine lv_iconst (v := (-1)) hx hb dX11_likeliest_5 (by decide) ?_
  obtain ⟨q_, s2, hc, hB⟩ := bindI_inv hB
  refine q_goiF (va_runV (As := [.int (-1)]) (rest := []) C (cr_bestFor hc _) (cwV 1 hts gX11_likeliest_X11_bestFor rfl rfl rfl (by decide +kernel) ⟨Nat.le_of_ble_eq_true rfl, Nat.le_of_ble_eq_true rfl⟩) (q_preV hK hP (ci := 11) (q0 := 0) rfl rfl rfl (q_preF hN hK hP hD)) rfl rfl hl.1 rfl (lv_room (Nat.le_of_ble_eq_true rfl)) dX11_likeliest_6 ⟨Nat.le_of_ble_eq_true rfl, Nat.le_of_ble_eq_true rfl⟩) hD hS hA (fun r3 w1 H locs hw hP hD hS => ?_)
  obtain ⟨hq_, hw⟩ := hw; subst hw; subst hq_
  exact q_iret C hr hlocks hK hP hD hS (Nat.le_of_ble_eq_true rfl) (Nat.le_of_ble_eq_true rfl) dX11_likeliest_9 (by cases hB; exact ⟨rfl, rfl⟩)
theorem cr_likeliest {l : Launch} {dC : Nat → ClassId} {dI : Nat → Nat → Nat} {cB cI cJ cZ cS : ClassId} {h : Nat} {a : Nat → Nat} {r : Int32} {s' : RS} {s : RS} (hB : r_likeliest s = some (r, s')) : CI l yX11_likeliest wsX11_likeliest ({ frames := 6, cells := 0, slots := 0, locals := 137 }) (dC, dI) (tysA cB cI cJ cZ cS) (mwS cB cI cJ cZ h a s) [.ref h] (fun x u => x = r ∧ u = (mwS cB cI cJ cZ h a s')) :=
  CI_of (cc := cX11_likeliest) (maxL := 1) (ret := (some .int)) (by decide) rfl (Nat.le_of_ble_eq_true rfl) (br_likeliest _ hB)
set_option maxHeartbeats 4000000 in
set_option maxRecDepth 100000 in
theorem br_bears {l : Launch} {dC : Nat → ClassId} {dI : Nat → Nat → Nat} {cB cI cJ cZ cS : ClassId} {h : Nat} {a : Nat → Nat} {as : List Value} {r : Int32} {s' : RS} (s : RS) (x1 : Int32) (x2 : Int32) (hB : r_bears s x1 x2 = some (r, s')) : BlkI l yX11_bears wsX11_bears ({ frames := 6, cells := 0, slots := 0, locals := 135 }) cX11_bears 3 (some .int) (dC, dI) (tysA cB cI cJ cZ cS) as 0 (mwS cB cI cJ cZ h a s) [(0, .ref h), (1, .int x1), (2, .int x2)] [] (fun x u => x = r ∧ u = (mwS cB cI cJ cZ h a s')) := by
  intro p e s0 m below meth c A E H locs ls hP hD hS hl
  obtain ⟨C, hr, hlocks, hA, hK, hN⟩ := id E
  obtain ⟨hx, hb, hml, hown, hts⟩ := id C
  unfold r_bears at hB
  refine lv_aload_n hx hb dX11_bears_0 rfl (lv_at hl 0 rfl) ?_
  refine lv_iload_n hx hb dX11_bears_1 rfl (lv_at hl 1 rfl) ?_
  obtain ⟨q_, s1, hc, hB⟩ := bindI_inv hB
  refine q_goiF (va_runV (As := [.int x1]) (rest := []) C (cr_isParty hc _) (cwV 1 hts gX11_bears_X11_isParty rfl rfl rfl (by decide +kernel) ⟨Nat.le_of_ble_eq_true rfl, Nat.le_of_ble_eq_true rfl⟩) (q_preV hK hP (ci := 11) (q0 := 0) rfl rfl rfl (q_preF hN hK hP hD)) rfl rfl hl.1 rfl (lv_room (Nat.le_of_ble_eq_true rfl)) dX11_bears_2 ⟨Nat.le_of_ble_eq_true rfl, Nat.le_of_ble_eq_true rfl⟩) hD hS hA (fun r2 w1 H locs hw hP hD hS => ?_)
  obtain ⟨hq_, hw⟩ := hw; subst hw; subst hq_
  refine lv_if_eq (tgt := 16) hx hb dX11_bears_5 (by decide) (fun c3 => ?_) (fun c3 => ?_)
  · have hB := if_p hB c3
    refine lv_iconst (v := (-1)) hx hb dX11_bears_16 (by decide) ?_
    exact q_iret C hr hlocks hK hP hD hS (Nat.le_of_ble_eq_true rfl) (Nat.le_of_ble_eq_true rfl) dX11_bears_17 (by cases hB; exact ⟨rfl, rfl⟩)
  · have hB := if_n hB c3
    refine lv_aload_n hx hb dX11_bears_8 rfl (lv_at hl 0 rfl) ?_
    refine lv_iload_n hx hb dX11_bears_9 rfl (lv_at hl 2 rfl) ?_
    obtain ⟨q_, s4, hc, hB⟩ := bindI_inv hB
    refine q_goiF (va_runV (As := [.int x2]) (rest := []) C (cr_isGuess hc _) (cwV 1 hts gX11_bears_X11_isGuess rfl rfl rfl (by decide +kernel) ⟨Nat.le_of_ble_eq_true rfl, Nat.le_of_ble_eq_true rfl⟩) (q_preV hK hP (ci := 11) (q0 := 0) rfl rfl rfl (q_preF hN hK hP hD)) rfl rfl hl.1 rfl (lv_room (Nat.le_of_ble_eq_true rfl)) dX11_bears_10 ⟨Nat.le_of_ble_eq_true rfl, Nat.le_of_ble_eq_true rfl⟩) hD hS hA (fun r5 w1 H locs hw hP hD hS => ?_)
    obtain ⟨hq_, hw⟩ := hw; subst hw; subst hq_
    refine lv_if_ne (tgt := 18) hx hb dX11_bears_13 (by decide) (fun c6 => ?_) (fun c6 => ?_)
    · have hB := if_n hB c6
      refine lv_aload_n hx hb dX11_bears_18 rfl (lv_at hl 0 rfl) ?_
      obtain ⟨s7, hc, hB⟩ := bindP_inv hB
      refine q_govF (va_runV (As := []) (rest := []) C (cr_copies hc _) (cwV 0 hts gX11_bears_X11_copies rfl rfl rfl (by decide +kernel) ⟨Nat.le_of_ble_eq_true rfl, Nat.le_of_ble_eq_true rfl⟩) (q_preV hK hP (ci := 11) (q0 := 0) rfl rfl rfl (q_preF hN hK hP hD)) rfl rfl hl.1 rfl (lv_room (Nat.le_of_ble_eq_true rfl)) dX11_bears_19 ⟨Nat.le_of_ble_eq_true rfl, Nat.le_of_ble_eq_true rfl⟩) hD hS hA (fun w1 H locs hw hP hD hS => ?_)
      subst hw
      refine lv_aload_n hx hb dX11_bears_22 rfl (lv_at hl 0 rfl) ?_
      refine lv_iload_n hx hb dX11_bears_23 rfl (lv_at hl 1 rfl) ?_
      refine lv_iload_n hx hb dX11_bears_24 rfl (lv_at hl 2 rfl) ?_
      obtain ⟨q_, s8, hc, hB⟩ := bindI_inv hB
      refine q_goiF (va_runV (As := [.int x1, .int x2]) (rest := []) C (cr_bearsBy hc _) (cwV 2 hts gX11_bears_X11_bearsBy rfl rfl rfl (by decide +kernel) ⟨Nat.le_of_ble_eq_true rfl, Nat.le_of_ble_eq_true rfl⟩) (q_preV hK hP (ci := 11) (q0 := 0) rfl rfl rfl (q_preF hN hK hP hD)) rfl rfl hl.1 rfl (lv_room (Nat.le_of_ble_eq_true rfl)) dX11_bears_25 ⟨Nat.le_of_ble_eq_true rfl, Nat.le_of_ble_eq_true rfl⟩) hD hS hA (fun r9 w1 H locs hw hP hD hS => ?_)
      obtain ⟨hq_, hw⟩ := hw; subst hw; subst hq_
      exact q_iret C hr hlocks hK hP hD hS (Nat.le_of_ble_eq_true rfl) (Nat.le_of_ble_eq_true rfl) dX11_bears_28 (by cases hB; exact ⟨rfl, rfl⟩)
    · have hB := if_p hB c6
      refine lv_iconst (v := (-1)) hx hb dX11_bears_16 (by decide) ?_
      exact q_iret C hr hlocks hK hP hD hS (Nat.le_of_ble_eq_true rfl) (Nat.le_of_ble_eq_true rfl) dX11_bears_17 (by cases hB; exact ⟨rfl, rfl⟩)
theorem cr_bears {l : Launch} {dC : Nat → ClassId} {dI : Nat → Nat → Nat} {cB cI cJ cZ cS : ClassId} {h : Nat} {a : Nat → Nat} {r : Int32} {s' : RS} {s : RS} {x1 : Int32} {x2 : Int32} (hB : r_bears s x1 x2 = some (r, s')) : CI l yX11_bears wsX11_bears ({ frames := 6, cells := 0, slots := 0, locals := 135 }) (dC, dI) (tysA cB cI cJ cZ cS) (mwS cB cI cJ cZ h a s) [.ref h, .int x1, .int x2] (fun x u => x = r ∧ u = (mwS cB cI cJ cZ h a s')) :=
  CI_of (cc := cX11_bears) (maxL := 3) (ret := (some .int)) (by decide) rfl (Nat.le_of_ble_eq_true rfl) (br_bears _ _ _ hB)
set_option maxHeartbeats 4000000 in
set_option maxRecDepth 100000 in
theorem br_safest {l : Launch} {dC : Nat → ClassId} {dI : Nat → Nat → Nat} {cB cI cJ cZ cS : ClassId} {h : Nat} {a : Nat → Nat} {as : List Value} {r : Int32} {s' : RS} (s : RS) (x1 : Int32) (hB : r_safest s x1 = some (r, s')) : BlkI l yX11_safest wsX11_safest ({ frames := 6, cells := 0, slots := 0, locals := 137 }) cX11_safest 2 (some .int) (dC, dI) (tysA cB cI cJ cZ cS) as 0 (mwS cB cI cJ cZ h a s) [(0, .ref h), (1, .int x1)] [] (fun x u => x = r ∧ u = (mwS cB cI cJ cZ h a s')) := by
  intro p e s0 m below meth c A E H locs ls hP hD hS hl
  obtain ⟨C, hr, hlocks, hA, hK, hN⟩ := id E
  obtain ⟨hx, hb, hml, hown, hts⟩ := id C
  unfold r_safest at hB
  refine lv_aload_n hx hb dX11_safest_0 rfl (lv_at hl 0 rfl) ?_
  refine lv_iload_n hx hb dX11_safest_1 rfl (lv_at hl 1 rfl) ?_
  obtain ⟨q_, s1, hc, hB⟩ := bindI_inv hB
  refine q_goiF (va_runV (As := [.int x1]) (rest := []) C (cr_isParty hc _) (cwV 1 hts gX11_safest_X11_isParty rfl rfl rfl (by decide +kernel) ⟨Nat.le_of_ble_eq_true rfl, Nat.le_of_ble_eq_true rfl⟩) (q_preV hK hP (ci := 11) (q0 := 0) rfl rfl rfl (q_preF hN hK hP hD)) rfl rfl hl.1 rfl (lv_room (Nat.le_of_ble_eq_true rfl)) dX11_safest_2 ⟨Nat.le_of_ble_eq_true rfl, Nat.le_of_ble_eq_true rfl⟩) hD hS hA (fun r2 w1 H locs hw hP hD hS => ?_)
  obtain ⟨hq_, hw⟩ := hw; subst hw; subst hq_
  refine lv_if_ne (tgt := 10) hx hb dX11_safest_5 (by decide) (fun c3 => ?_) (fun c3 => ?_)
  · have hB := if_n hB c3
    refine lv_aload_n hx hb dX11_safest_10 rfl (lv_at hl 0 rfl) ?_
    obtain ⟨s4, hc, hB⟩ := bindP_inv hB
    refine q_govF (va_runV (As := []) (rest := []) C (cr_copies hc _) (cwV 0 hts gX11_safest_X11_copies rfl rfl rfl (by decide +kernel) ⟨Nat.le_of_ble_eq_true rfl, Nat.le_of_ble_eq_true rfl⟩) (q_preV hK hP (ci := 11) (q0 := 0) rfl rfl rfl (q_preF hN hK hP hD)) rfl rfl hl.1 rfl (lv_room (Nat.le_of_ble_eq_true rfl)) dX11_safest_11 ⟨Nat.le_of_ble_eq_true rfl, Nat.le_of_ble_eq_true rfl⟩) hD hS hA (fun w1 H locs hw hP hD hS => ?_)
    subst hw
    refine lv_aload_n hx hb dX11_safest_14 rfl (lv_at hl 0 rfl) ?_
    refine lv_iload_n hx hb dX11_safest_15 rfl (lv_at hl 1 rfl) ?_
    obtain ⟨q_, s5, hc, hB⟩ := bindI_inv hB
    refine q_goiF (va_runV (As := [.int x1]) (rest := []) C (cr_bestFor hc _) (cwV 1 hts gX11_safest_X11_bestFor rfl rfl rfl (by decide +kernel) ⟨Nat.le_of_ble_eq_true rfl, Nat.le_of_ble_eq_true rfl⟩) (q_preV hK hP (ci := 11) (q0 := 0) rfl rfl rfl (q_preF hN hK hP hD)) rfl rfl hl.1 rfl (lv_room (Nat.le_of_ble_eq_true rfl)) dX11_safest_16 ⟨Nat.le_of_ble_eq_true rfl, Nat.le_of_ble_eq_true rfl⟩) hD hS hA (fun r6 w1 H locs hw hP hD hS => ?_)
    obtain ⟨hq_, hw⟩ := hw; subst hw; subst hq_
    exact q_iret C hr hlocks hK hP hD hS (Nat.le_of_ble_eq_true rfl) (Nat.le_of_ble_eq_true rfl) dX11_safest_19 (by cases hB; exact ⟨rfl, rfl⟩)
  · have hB := if_p hB c3
    refine lv_iconst (v := (-1)) hx hb dX11_safest_8 (by decide) ?_
    exact q_iret C hr hlocks hK hP hD hS (Nat.le_of_ble_eq_true rfl) (Nat.le_of_ble_eq_true rfl) dX11_safest_9 (by cases hB; exact ⟨rfl, rfl⟩)
theorem cr_safest {l : Launch} {dC : Nat → ClassId} {dI : Nat → Nat → Nat} {cB cI cJ cZ cS : ClassId} {h : Nat} {a : Nat → Nat} {r : Int32} {s' : RS} {s : RS} {x1 : Int32} (hB : r_safest s x1 = some (r, s')) : CI l yX11_safest wsX11_safest ({ frames := 6, cells := 0, slots := 0, locals := 137 }) (dC, dI) (tysA cB cI cJ cZ cS) (mwS cB cI cJ cZ h a s) [.ref h, .int x1] (fun x u => x = r ∧ u = (mwS cB cI cJ cZ h a s')) :=
  CI_of (cc := cX11_safest) (maxL := 2) (ret := (some .int)) (by decide) rfl (Nat.le_of_ble_eq_true rfl) (br_safest _ _ hB)
theorem LX11_enough_215 : Cond.fieldLink RX11 215 "GuessFerryModel" "live" "I" ∈ wsX11_enough := (List.mem_cons_of_mem _ (List.mem_append_left _ (List.mem_append_left _ (List.mem_of_getElem? (i := 1) rfl))))
theorem LX11_enough_40 : Cond.fieldLink RX11 40 "GuessFerryModel" "waves" "[I" ∈ wsX11_enough := (List.mem_cons_of_mem _ (List.mem_append_left _ (List.mem_append_left _ (List.mem_of_getElem? (i := 0) rfl))))
theorem inX11_enough_X11 : ∀ w ∈ u_ws RX11 TX11 58, w ∈ wsX11_enough := fun w h => (List.mem_cons_of_mem _ (List.mem_append_right _ h))
set_option maxHeartbeats 4000000 in
set_option maxRecDepth 100000 in
theorem br_enough_18 {l : Launch} {dC : Nat → ClassId} {dI : Nat → Nat → Nat} {cB cI cJ cZ cS : ClassId} {h : Nat} {a : Nat → Nat} {as : List Value} {r : Int32} {s' : RS} {k18 : RS → Int32 → Int32 → Option (Int32 × RS)} (hk18 : ∀ (s : RS) (x1 : Int32) (x2 : Int32), k18 s x1 x2 = some (r, s') → BlkI l yX11_enough wsX11_enough ({ frames := 3, cells := 0, slots := 0, locals := 67 }) cX11_enough 3 (some .int) (dC, dI) (tysA cB cI cJ cZ cS) as 18 (mwS cB cI cJ cZ h a s) [(0, .ref h), (1, .int x1), (2, .int x2)] [] (fun x u => x = r ∧ u = (mwS cB cI cJ cZ h a s'))) (s : RS) (x1 : Int32) (x2 : Int32) (hB : r_enough_18 k18 s x1 x2 = some (r, s')) : BlkI l yX11_enough wsX11_enough ({ frames := 3, cells := 0, slots := 0, locals := 67 }) cX11_enough 3 (some .int) (dC, dI) (tysA cB cI cJ cZ cS) as 18 (mwS cB cI cJ cZ h a s) [(0, .ref h), (1, .int x1), (2, .int x2)] [] (fun x u => x = r ∧ u = (mwS cB cI cJ cZ h a s')) := by
  intro p e s0 m below meth c A E H locs ls hP hD hS hl
  obtain ⟨C, hr, hlocks, hA, hK, hN⟩ := id E
  obtain ⟨hx, hb, hml, hown, hts⟩ := id C
  unfold r_enough_18 at hB
  refine lv_iload_n hx hb dX11_enough_18 rfl (lv_at hl 2 rfl) ?_
  refine lv_aload_n hx hb dX11_enough_19 rfl (lv_at hl 0 rfl) ?_
  refine q_get (v := .ref (a 20)) C inX11_enough_X11 hK hP 0 rfl rfl 20 (by decide) rfl LX11_enough_40 rfl dX11_enough_20 ?_
  refine lv_aload_n hx hb dX11_enough_23 rfl (lv_at hl 0 rfl) ?_
  refine q_get (v := .int (s.v 18)) C inX11_enough_X11 hK hP 0 rfl rfl 18 (by decide) rfl LX11_enough_215 rfl dX11_enough_24 ?_
  obtain ⟨g1, hB⟩ := guard_inv hB
  refine q_iald (x := (s.f 20 (Int32.toNatClampNeg (s.v 18)))) C hK hP 8 1 rfl rfl (vpb_in g1) dX11_enough_27 rfl ?_
  refine lv_icmp_ge (tgt := 50) hx hb dX11_enough_28 (by decide) (fun c2 => ?_) (fun c2 => ?_)
  · have hB := if_p hB c2
    refine lv_iload_n hx hb dX11_enough_50 rfl (lv_at hl 1 rfl) ?_
    exact q_iret C hr hlocks hK hP hD hS (Nat.le_of_ble_eq_true rfl) (Nat.le_of_ble_eq_true rfl) dX11_enough_51 (by cases hB; exact ⟨rfl, rfl⟩)
  · have hB := if_n hB c2
    refine lv_iload_n hx hb dX11_enough_31 rfl (lv_at hl 1 rfl) ?_
    refine lv_aload_n hx hb dX11_enough_32 rfl (lv_at hl 0 rfl) ?_
    refine lv_iload_n hx hb dX11_enough_33 rfl (lv_at hl 2 rfl) ?_
    obtain ⟨q_, s3, hc, hB⟩ := bindI_inv hB
    refine q_goiF (va_runV (As := [.int x2]) (rest := [.int x1]) C (cr_mayAt hc _) (cwV 1 hts gX11_enough_X11_mayAt rfl rfl rfl (by decide +kernel) ⟨Nat.le_of_ble_eq_true rfl, Nat.le_of_ble_eq_true rfl⟩) (q_preV hK hP (ci := 11) (q0 := 0) rfl rfl rfl (q_preF hN hK hP hD)) rfl rfl hl.1 rfl (lv_room (Nat.le_of_ble_eq_true rfl)) dX11_enough_34 ⟨Nat.le_of_ble_eq_true rfl, Nat.le_of_ble_eq_true rfl⟩) hD hS hA (fun r4 w1 H locs hw hP hD hS => ?_)
    obtain ⟨hq_, hw⟩ := hw; subst hw; subst hq_
    obtain ⟨q_, hc, hB⟩ := bindP_inv hB
    refine q_goi0 (va_runS (As := [.int r4]) (rest := [.int x1]) C (cr_bits hc _) (va_cwS 1 hts gX11_enough_X11_bits rfl rfl rfl (by decide +kernel) ⟨Nat.le_of_ble_eq_true rfl, Nat.le_of_ble_eq_true rfl⟩) (q_pre0 hN hK) rfl rfl hl.1 rfl (lv_room (Nat.le_of_ble_eq_true rfl)) dX11_enough_37 ⟨Nat.le_of_ble_eq_true rfl, Nat.le_of_ble_eq_true rfl⟩) hP hD hS hA (fun r5 w1 H locs hw hP hS => ?_)
    subst hw
    refine lv_iconst (v := 1) hx hb dX11_enough_40 (by decide) ?_
    refine lv_isub hx hb dX11_enough_41 ?_
    refine lv_iadd hx hb dX11_enough_42 ?_
    refine lv_istore_n (lv' := [(1, .int (x1 + (r5 - 1))), (0, .ref h), (2, .int x2)]) hx hb dX11_enough_43 rfl hl (by decide) rfl (fun ls hl => ?_)
    refine lv_iinc (v := (x2 + 1)) (lv' := [(2, .int (x2 + 1)), (1, .int (x1 + (r5 - 1))), (0, .ref h)]) hx hb dX11_enough_44 hl (k := 2) rfl (rfl) (by decide) rfl (fun ls hl => ?_)
    refine lv_goto (tgt := 18) hx hb dX11_enough_47 (by decide) ?_
    exact hk18 _ _ _ hB p e s0 m below meth c A E H locs ls hP hD hS (lv_sub hl [2, 1, 0] rfl)
theorem br_enough_18L {l : Launch} {dC : Nat → ClassId} {dI : Nat → Nat → Nat} {cB cI cJ cZ cS : ClassId} {h : Nat} {a : Nat → Nat} {as : List Value} {r : Int32} {s' : RS} : ∀ (n : Nat) (s : RS) (x1 : Int32) (x2 : Int32), r_enough_18L n s x1 x2 = some (r, s') → BlkI l yX11_enough wsX11_enough ({ frames := 3, cells := 0, slots := 0, locals := 67 }) cX11_enough 3 (some .int) (dC, dI) (tysA cB cI cJ cZ cS) as 18 (mwS cB cI cJ cZ h a s) [(0, .ref h), (1, .int x1), (2, .int x2)] [] (fun x u => x = r ∧ u = (mwS cB cI cJ cZ h a s')) := by
  intro n
  induction n with
  | zero => intro s x1 x2 hB; exact none_ne hB
  | succ n ih => intro s x1 x2 hB; exact br_enough_18 ih _ _ _ hB
set_option maxHeartbeats 4000000 in
set_option maxRecDepth 100000 in
theorem br_enough {l : Launch} {dC : Nat → ClassId} {dI : Nat → Nat → Nat} {cB cI cJ cZ cS : ClassId} {h : Nat} {a : Nat → Nat} {as : List Value} {r : Int32} {s' : RS} (s : RS) (hB : r_enough s = some (r, s')) : BlkI l yX11_enough wsX11_enough ({ frames := 3, cells := 0, slots := 0, locals := 67 }) cX11_enough 3 (some .int) (dC, dI) (tysA cB cI cJ cZ cS) as 0 (mwS cB cI cJ cZ h a s) [(0, .ref h)] [] (fun x u => x = r ∧ u = (mwS cB cI cJ cZ h a s')) := by
  intro p e s0 m below meth c A E H locs ls hP hD hS hl
  obtain ⟨C, hr, hlocks, hA, hK, hN⟩ := id E
  obtain ⟨hx, hb, hml, hown, hts⟩ := id C
  unfold r_enough at hB
  refine lv_aload_n hx hb dX11_enough_0 rfl (lv_at hl 0 rfl) ?_
  obtain ⟨s1, hc, hB⟩ := bindP_inv hB
  refine q_govF (va_runV (As := []) (rest := []) C (cr_copies hc _) (cwV 0 hts gX11_enough_X11_copies rfl rfl rfl (by decide +kernel) ⟨Nat.le_of_ble_eq_true rfl, Nat.le_of_ble_eq_true rfl⟩) (q_preV hK hP (ci := 11) (q0 := 0) rfl rfl rfl (q_preF hN hK hP hD)) rfl rfl hl.1 rfl (lv_room (Nat.le_of_ble_eq_true rfl)) dX11_enough_1 ⟨Nat.le_of_ble_eq_true rfl, Nat.le_of_ble_eq_true rfl⟩) hD hS hA (fun w1 H locs hw hP hD hS => ?_)
  subst hw
  refine lv_aload_n hx hb dX11_enough_4 rfl (lv_at hl 0 rfl) ?_
  obtain ⟨q_, s2, hc, hB⟩ := bindI_inv hB
  refine q_goiF (va_runV (As := []) (rest := []) C (cr_casesNow hc _) (cwV 0 hts gX11_enough_X11_casesNow rfl rfl rfl (by decide +kernel) ⟨Nat.le_of_ble_eq_true rfl, Nat.le_of_ble_eq_true rfl⟩) (q_preV hK hP (ci := 11) (q0 := 0) rfl rfl rfl (q_preF hN hK hP hD)) rfl rfl hl.1 rfl (lv_room (Nat.le_of_ble_eq_true rfl)) dX11_enough_5 ⟨Nat.le_of_ble_eq_true rfl, Nat.le_of_ble_eq_true rfl⟩) hD hS hA (fun r3 w1 H locs hw hP hD hS => ?_)
  obtain ⟨hq_, hw⟩ := hw; subst hw; subst hq_
  refine lv_if_ne (tgt := 14) hx hb dX11_enough_8 (by decide) (fun c4 => ?_) (fun c4 => ?_)
  · have hB := if_n hB c4
    refine lv_iconst (v := 1) hx hb dX11_enough_14 (by decide) ?_
    refine lv_istore_n (lv' := [(1, .int 1), (0, .ref h)]) hx hb dX11_enough_15 rfl hl (by decide) rfl (fun ls hl => ?_)
    refine lv_iconst (v := 0) hx hb dX11_enough_16 (by decide) ?_
    refine lv_istore_n (lv' := [(2, .int 0), (1, .int 1), (0, .ref h)]) hx hb dX11_enough_17 rfl hl (by decide) rfl (fun ls hl => ?_)
    exact br_enough_18L fu _ _ _ hB p e s0 m below meth c A E H locs ls hP hD hS (lv_sub hl [2, 1, 0] rfl)
  · have hB := if_p hB c4
    refine lv_bipush (v := (-2)) hx hb dX11_enough_11 (by decide) ?_
    exact q_iret C hr hlocks hK hP hD hS (Nat.le_of_ble_eq_true rfl) (Nat.le_of_ble_eq_true rfl) dX11_enough_13 (by cases hB; exact ⟨rfl, rfl⟩)
theorem cr_enough {l : Launch} {dC : Nat → ClassId} {dI : Nat → Nat → Nat} {cB cI cJ cZ cS : ClassId} {h : Nat} {a : Nat → Nat} {r : Int32} {s' : RS} {s : RS} (hB : r_enough s = some (r, s')) : CI l yX11_enough wsX11_enough ({ frames := 3, cells := 0, slots := 0, locals := 67 }) (dC, dI) (tysA cB cI cJ cZ cS) (mwS cB cI cJ cZ h a s) [.ref h] (fun x u => x = r ∧ u = (mwS cB cI cJ cZ h a s')) :=
  CI_of (cc := cX11_enough) (maxL := 3) (ret := (some .int)) (by decide) rfl (Nat.le_of_ble_eq_true rfl) (br_enough _ hB)
theorem LX11_leftOf_215 : Cond.fieldLink RX11 215 "GuessFerryModel" "live" "I" ∈ wsX11_leftOf := (List.mem_cons_of_mem _ (List.mem_append_left _ (List.mem_append_left _ (List.mem_of_getElem? (i := 1) rfl))))
theorem LX11_leftOf_40 : Cond.fieldLink RX11 40 "GuessFerryModel" "waves" "[I" ∈ wsX11_leftOf := (List.mem_cons_of_mem _ (List.mem_append_left _ (List.mem_append_left _ (List.mem_of_getElem? (i := 0) rfl))))
theorem inX11_leftOf_X11 : ∀ w ∈ u_ws RX11 TX11 58, w ∈ wsX11_leftOf := fun w h => (List.mem_cons_of_mem _ (List.mem_append_right _ h))
set_option maxHeartbeats 4000000 in
set_option maxRecDepth 100000 in
theorem br_leftOf_72 {l : Launch} {dC : Nat → ClassId} {dI : Nat → Nat → Nat} {cB cI cJ cZ cS : ClassId} {h : Nat} {a : Nat → Nat} {as : List Value} {r : Int32} {s' : RS} {k10 : RS → Int32 → Int32 → Int32 → Int32 → Option (Int32 × RS)} (hk10 : ∀ (s : RS) (x1 : Int32) (x2 : Int32) (x3 : Int32) (x4 : Int32), k10 s x1 x2 x3 x4 = some (r, s') → BlkI l yX11_leftOf wsX11_leftOf ({ frames := 3, cells := 0, slots := 0, locals := 67 }) cX11_leftOf 7 (some .int) (dC, dI) (tysA cB cI cJ cZ cS) as 10 (mwS cB cI cJ cZ h a s) [(0, .ref h), (1, .int x1), (2, .int x2), (3, .int x3), (4, .int x4)] [] (fun x u => x = r ∧ u = (mwS cB cI cJ cZ h a s'))) (s : RS) (x1 : Int32) (x2 : Int32) (x3 : Int32) (x4 : Int32) (x5 : Int32) (x6 : Int32) (hB : r_leftOf_72 k10 s x1 x2 x3 x4 x5 x6 = some (r, s')) : BlkI l yX11_leftOf wsX11_leftOf ({ frames := 3, cells := 0, slots := 0, locals := 67 }) cX11_leftOf 7 (some .int) (dC, dI) (tysA cB cI cJ cZ cS) as 72 (mwS cB cI cJ cZ h a s) [(0, .ref h), (1, .int x1), (2, .int x2), (3, .int x3), (4, .int x4), (5, .int x5), (6, .int x6)] [] (fun x u => x = r ∧ u = (mwS cB cI cJ cZ h a s')) := by
  intro p e s0 m below meth c A E H locs ls hP hD hS hl
  obtain ⟨C, hr, hlocks, hA, hK, hN⟩ := id E
  obtain ⟨hx, hb, hml, hown, hts⟩ := id C
  unfold r_leftOf_72 at hB
  refine lv_iload hx hb dX11_leftOf_72 (lv_at hl 6 rfl) ?_
  refine lv_iload hx hb dX11_leftOf_74 (lv_at hl 5 rfl) ?_
  obtain ⟨q_, hc, hB⟩ := bindP_inv hB
  refine q_goi0 (va_runS (As := [.int x5]) (rest := [.int x6]) C (cr_bits hc _) (va_cwS 1 hts gX11_leftOf_X11_bits rfl rfl rfl (by decide +kernel) ⟨Nat.le_of_ble_eq_true rfl, Nat.le_of_ble_eq_true rfl⟩) (q_pre0 hN hK) rfl rfl hl.1 rfl (lv_room (Nat.le_of_ble_eq_true rfl)) dX11_leftOf_76 ⟨Nat.le_of_ble_eq_true rfl, Nat.le_of_ble_eq_true rfl⟩) hP hD hS hA (fun r1 w1 H locs hw hP hS => ?_)
  subst hw
  refine lv_icmp_ne (tgt := 84) hx hb dX11_leftOf_79 (by decide) (fun c2 => ?_) (fun c2 => ?_)
  · have hB := if_n hB c2
    refine lv_iinc (v := (x4 + 1)) (lv' := [(4, .int (x4 + 1)), (0, .ref h), (1, .int x1), (2, .int x2), (3, .int x3), (5, .int x5), (6, .int x6)]) hx hb dX11_leftOf_84 hl (k := 4) rfl (rfl) (by decide) rfl (fun ls hl => ?_)
    refine lv_goto (tgt := 10) hx hb dX11_leftOf_87 (by decide) ?_
    exact hk10 _ _ _ _ _ hB p e s0 m below meth c A E H locs ls hP hD hS (lv_sub hl [1, 2, 3, 4, 0] rfl)
  · have hB := if_p hB c2
    refine lv_iload_n hx hb dX11_leftOf_82 rfl (lv_at hl 2 rfl) ?_
    exact q_iret C hr hlocks hK hP hD hS (Nat.le_of_ble_eq_true rfl) (Nat.le_of_ble_eq_true rfl) dX11_leftOf_83 (by cases hB; exact ⟨rfl, rfl⟩)
set_option maxHeartbeats 4000000 in
set_option maxRecDepth 100000 in
theorem br_leftOf_10 {l : Launch} {dC : Nat → ClassId} {dI : Nat → Nat → Nat} {cB cI cJ cZ cS : ClassId} {h : Nat} {a : Nat → Nat} {as : List Value} {r : Int32} {s' : RS} {k10 : RS → Int32 → Int32 → Int32 → Int32 → Option (Int32 × RS)} (hk10 : ∀ (s : RS) (x1 : Int32) (x2 : Int32) (x3 : Int32) (x4 : Int32), k10 s x1 x2 x3 x4 = some (r, s') → BlkI l yX11_leftOf wsX11_leftOf ({ frames := 3, cells := 0, slots := 0, locals := 67 }) cX11_leftOf 7 (some .int) (dC, dI) (tysA cB cI cJ cZ cS) as 10 (mwS cB cI cJ cZ h a s) [(0, .ref h), (1, .int x1), (2, .int x2), (3, .int x3), (4, .int x4)] [] (fun x u => x = r ∧ u = (mwS cB cI cJ cZ h a s'))) (s : RS) (x1 : Int32) (x2 : Int32) (x3 : Int32) (x4 : Int32) (hB : r_leftOf_10 k10 s x1 x2 x3 x4 = some (r, s')) : BlkI l yX11_leftOf wsX11_leftOf ({ frames := 3, cells := 0, slots := 0, locals := 67 }) cX11_leftOf 7 (some .int) (dC, dI) (tysA cB cI cJ cZ cS) as 10 (mwS cB cI cJ cZ h a s) [(0, .ref h), (1, .int x1), (2, .int x2), (3, .int x3), (4, .int x4)] [] (fun x u => x = r ∧ u = (mwS cB cI cJ cZ h a s')) := by
  intro p e s0 m below meth c A E H locs ls hP hD hS hl
  obtain ⟨C, hr, hlocks, hA, hK, hN⟩ := id E
  obtain ⟨hx, hb, hml, hown, hts⟩ := id C
  unfold r_leftOf_10 at hB
  refine lv_iload hx hb dX11_leftOf_10 (lv_at hl 4 rfl) ?_
  refine lv_aload_n hx hb dX11_leftOf_12 rfl (lv_at hl 0 rfl) ?_
  refine q_get (v := .ref (a 20)) C inX11_leftOf_X11 hK hP 0 rfl rfl 20 (by decide) rfl LX11_leftOf_40 rfl dX11_leftOf_13 ?_
  refine lv_aload_n hx hb dX11_leftOf_16 rfl (lv_at hl 0 rfl) ?_
  refine q_get (v := .int (s.v 18)) C inX11_leftOf_X11 hK hP 0 rfl rfl 18 (by decide) rfl LX11_leftOf_215 rfl dX11_leftOf_17 ?_
  obtain ⟨g1, hB⟩ := guard_inv hB
  refine q_iald (x := (s.f 20 (Int32.toNatClampNeg (s.v 18)))) C hK hP 8 1 rfl rfl (vpb_in g1) dX11_leftOf_20 rfl ?_
  refine lv_icmp_ge (tgt := 90) hx hb dX11_leftOf_21 (by decide) (fun c2 => ?_) (fun c2 => ?_)
  · have hB := if_p hB c2
    refine lv_iload_n hx hb dX11_leftOf_90 rfl (lv_at hl 2 rfl) ?_
    refine lv_iconst (v := 1) hx hb dX11_leftOf_91 (by decide) ?_
    refine lv_icmp_le (tgt := 99) hx hb dX11_leftOf_92 (by decide) (fun c3 => ?_) (fun c3 => ?_)
    · have hB := if_p hB c3
      refine lv_iconst (v := 1) hx hb dX11_leftOf_99 (by decide) ?_
      exact q_iret C hr hlocks hK hP hD hS (Nat.le_of_ble_eq_true rfl) (Nat.le_of_ble_eq_true rfl) dX11_leftOf_100 (by cases hB; exact ⟨rfl, rfl⟩)
    · have hB := if_n hB c3
      refine lv_iload_n hx hb dX11_leftOf_95 rfl (lv_at hl 2 rfl) ?_
      refine lv_goto (tgt := 100) hx hb dX11_leftOf_96 (by decide) ?_
      exact q_iret C hr hlocks hK hP hD hS (Nat.le_of_ble_eq_true rfl) (Nat.le_of_ble_eq_true rfl) dX11_leftOf_100 (by cases hB; exact ⟨rfl, rfl⟩)
  · have hB := if_n hB c2
    refine lv_aload_n hx hb dX11_leftOf_24 rfl (lv_at hl 0 rfl) ?_
    refine lv_iload hx hb dX11_leftOf_25 (lv_at hl 4 rfl) ?_
    obtain ⟨q_, s4, hc, hB⟩ := bindI_inv hB
    refine q_goiF (va_runV (As := [.int x4]) (rest := []) C (cr_mayAt hc _) (cwV 1 hts gX11_leftOf_X11_mayAt rfl rfl rfl (by decide +kernel) ⟨Nat.le_of_ble_eq_true rfl, Nat.le_of_ble_eq_true rfl⟩) (q_preV hK hP (ci := 11) (q0 := 0) rfl rfl rfl (q_preF hN hK hP hD)) rfl rfl hl.1 rfl (lv_room (Nat.le_of_ble_eq_true rfl)) dX11_leftOf_27 ⟨Nat.le_of_ble_eq_true rfl, Nat.le_of_ble_eq_true rfl⟩) hD hS hA (fun r5 w1 H locs hw hP hD hS => ?_)
    obtain ⟨hq_, hw⟩ := hw; subst hw; subst hq_
    refine lv_istore (lv' := [(5, .int r5), (0, .ref h), (1, .int x1), (2, .int x2), (3, .int x3), (4, .int x4)]) hx hb dX11_leftOf_30 hl (by decide) rfl (fun ls hl => ?_)
    refine lv_iload_n hx hb dX11_leftOf_32 rfl (lv_at hl 4 rfl) ?_
    refine lv_iload hx hb dX11_leftOf_33 (lv_at hl 0 rfl) ?_
    obtain ⟨q_, hc, hB⟩ := bindP_inv hB
    refine q_goi0 (va_runS (As := [.int r5]) (rest := [.int x3]) C (cr_bits hc _) (va_cwS 1 hts gX11_leftOf_X11_bits rfl rfl rfl (by decide +kernel) ⟨Nat.le_of_ble_eq_true rfl, Nat.le_of_ble_eq_true rfl⟩) (q_pre0 hN hK) rfl rfl hl.1 rfl (lv_room (Nat.le_of_ble_eq_true rfl)) dX11_leftOf_35 ⟨Nat.le_of_ble_eq_true rfl, Nat.le_of_ble_eq_true rfl⟩) hP hD hS hA (fun r6 w1 H locs hw hP hS => ?_)
    subst hw
    obtain ⟨z7, hB⟩ := guard_inv hB
    refine lv_idiv hx hb dX11_leftOf_38 z7 ?_
    refine lv_istore_n (lv' := [(3, .int (x3 / r6)), (5, .int r5), (0, .ref h), (1, .int x1), (2, .int x2), (4, .int x4)]) hx hb dX11_leftOf_39 rfl hl (by decide) rfl (fun ls hl => ?_)
    refine lv_iload hx hb dX11_leftOf_40 (lv_at hl 1 rfl) ?_
    refine lv_iconst (v := 1) hx hb dX11_leftOf_42 (by decide) ?_
    refine lv_aload_n hx hb dX11_leftOf_43 rfl (lv_at hl 2 rfl) ?_
    refine lv_iload_n hx hb dX11_leftOf_44 rfl (lv_at hl 3 rfl) ?_
    refine lv_iload hx hb dX11_leftOf_45 (lv_at hl 5 rfl) ?_
    obtain ⟨q_, s8, hc, hB⟩ := bindI_inv hB
    refine q_goiF (va_runV (As := [.int x1, .int x4]) (rest := [.int 1, .int r5]) C (cr_thingAt hc _) (cwV 2 hts gX11_leftOf_X11_thingAt rfl rfl rfl (by decide +kernel) ⟨Nat.le_of_ble_eq_true rfl, Nat.le_of_ble_eq_true rfl⟩) (q_preV hK hP (ci := 11) (q0 := 0) rfl rfl rfl (q_preF hN hK hP hD)) rfl rfl hl.1 rfl (lv_room (Nat.le_of_ble_eq_true rfl)) dX11_leftOf_47 ⟨Nat.le_of_ble_eq_true rfl, Nat.le_of_ble_eq_true rfl⟩) hD hS hA (fun r9 w1 H locs hw hP hD hS => ?_)
    obtain ⟨hq_, hw⟩ := hw; subst hw; subst hq_
    refine lv_ishl hx hb dX11_leftOf_50 ?_
    refine lv_iconst (v := (-1)) hx hb dX11_leftOf_51 (by decide) ?_
    refine lv_ixor hx hb dX11_leftOf_52 ?_
    refine lv_iand hx hb dX11_leftOf_53 ?_
    obtain ⟨q_, hc, hB⟩ := bindP_inv hB
    refine q_goi0 (va_runS (As := [.int (r5 &&& ((1 <<< (r9 &&& 31)) ^^^ (-1)))]) (rest := []) C (cr_bits hc _) (va_cwS 1 hts gX11_leftOf_X11_bits rfl rfl rfl (by decide +kernel) ⟨Nat.le_of_ble_eq_true rfl, Nat.le_of_ble_eq_true rfl⟩) (q_pre0 hN hK) rfl rfl hl.1 rfl (lv_room (Nat.le_of_ble_eq_true rfl)) dX11_leftOf_54 ⟨Nat.le_of_ble_eq_true rfl, Nat.le_of_ble_eq_true rfl⟩) hP hD hS hA (fun r10 w1 H locs hw hP hS => ?_)
    subst hw
    refine lv_istore (lv' := [(6, .int r10), (3, .int (x3 / r6)), (5, .int r5), (0, .ref h), (1, .int x1), (2, .int x2), (4, .int x4)]) hx hb dX11_leftOf_57 hl (by decide) rfl (fun ls hl => ?_)
    refine lv_iload hx hb dX11_leftOf_59 (lv_at hl 0 rfl) ?_
    refine lv_iload_n hx hb dX11_leftOf_61 rfl (lv_at hl 1 rfl) ?_
    refine lv_imul hx hb dX11_leftOf_62 ?_
    refine lv_iload_n hx hb dX11_leftOf_63 rfl (lv_at hl 5 rfl) ?_
    refine lv_icmp_le (tgt := 72) hx hb dX11_leftOf_64 (by decide) (fun c11 => ?_) (fun c11 => ?_)
    · have hB := if_p hB c11
      exact br_leftOf_72 (hk10) _ _ _ _ _ _ _ hB p e s0 m below meth c A E H locs ls hP hD hS (lv_sub hl [3, 4, 5, 1, 6, 2, 0] rfl)
    · have hB := if_n hB c11
      refine lv_iload hx hb dX11_leftOf_67 (lv_at hl 0 rfl) ?_
      refine lv_iload_n hx hb dX11_leftOf_69 rfl (lv_at hl 1 rfl) ?_
      refine lv_imul hx hb dX11_leftOf_70 ?_
      refine lv_istore_n (lv' := [(2, .int (r10 * (x3 / r6))), (6, .int r10), (3, .int (x3 / r6)), (5, .int r5), (0, .ref h), (1, .int x1), (4, .int x4)]) hx hb dX11_leftOf_71 rfl hl (by decide) rfl (fun ls hl => ?_)
      exact br_leftOf_72 (hk10) _ _ _ _ _ _ _ hB p e s0 m below meth c A E H locs ls hP hD hS (lv_sub hl [4, 5, 0, 2, 6, 3, 1] rfl)
theorem br_leftOf_10L {l : Launch} {dC : Nat → ClassId} {dI : Nat → Nat → Nat} {cB cI cJ cZ cS : ClassId} {h : Nat} {a : Nat → Nat} {as : List Value} {r : Int32} {s' : RS} : ∀ (n : Nat) (s : RS) (x1 : Int32) (x2 : Int32) (x3 : Int32) (x4 : Int32), r_leftOf_10L n s x1 x2 x3 x4 = some (r, s') → BlkI l yX11_leftOf wsX11_leftOf ({ frames := 3, cells := 0, slots := 0, locals := 67 }) cX11_leftOf 7 (some .int) (dC, dI) (tysA cB cI cJ cZ cS) as 10 (mwS cB cI cJ cZ h a s) [(0, .ref h), (1, .int x1), (2, .int x2), (3, .int x3), (4, .int x4)] [] (fun x u => x = r ∧ u = (mwS cB cI cJ cZ h a s')) := by
  intro n
  induction n with
  | zero => intro s x1 x2 x3 x4 hB; exact none_ne hB
  | succ n ih => intro s x1 x2 x3 x4 hB; exact br_leftOf_10 ih _ _ _ _ _ hB
set_option maxHeartbeats 4000000 in
set_option maxRecDepth 100000 in
theorem br_leftOf {l : Launch} {dC : Nat → ClassId} {dI : Nat → Nat → Nat} {cB cI cJ cZ cS : ClassId} {h : Nat} {a : Nat → Nat} {as : List Value} {r : Int32} {s' : RS} (s : RS) (x1 : Int32) (hB : r_leftOf s x1 = some (r, s')) : BlkI l yX11_leftOf wsX11_leftOf ({ frames := 3, cells := 0, slots := 0, locals := 67 }) cX11_leftOf 7 (some .int) (dC, dI) (tysA cB cI cJ cZ cS) as 0 (mwS cB cI cJ cZ h a s) [(0, .ref h), (1, .int x1)] [] (fun x u => x = r ∧ u = (mwS cB cI cJ cZ h a s')) := by
  intro p e s0 m below meth c A E H locs ls hP hD hS hl
  obtain ⟨C, hr, hlocks, hA, hK, hN⟩ := id E
  obtain ⟨hx, hb, hml, hown, hts⟩ := id C
  unfold r_leftOf at hB
  refine lv_iconst (v := 0) hx hb dX11_leftOf_0 (by decide) ?_
  refine lv_istore_n (lv' := [(2, .int 0), (0, .ref h), (1, .int x1)]) hx hb dX11_leftOf_1 rfl hl (by decide) rfl (fun ls hl => ?_)
  refine lv_aload_n hx hb dX11_leftOf_2 rfl (lv_at hl 1 rfl) ?_
  obtain ⟨q_, s1, hc, hB⟩ := bindI_inv hB
  refine q_goiF (va_runV (As := []) (rest := []) C (cr_casesNow hc _) (cwV 0 hts gX11_leftOf_X11_casesNow rfl rfl rfl (by decide +kernel) ⟨Nat.le_of_ble_eq_true rfl, Nat.le_of_ble_eq_true rfl⟩) (q_preV hK hP (ci := 11) (q0 := 0) rfl rfl rfl (q_preF hN hK hP hD)) rfl rfl hl.1 rfl (lv_room (Nat.le_of_ble_eq_true rfl)) dX11_leftOf_3 ⟨Nat.le_of_ble_eq_true rfl, Nat.le_of_ble_eq_true rfl⟩) hD hS hA (fun r2 w1 H locs hw hP hD hS => ?_)
  obtain ⟨hq_, hw⟩ := hw; subst hw; subst hq_
  refine lv_istore_n (lv' := [(3, .int r2), (2, .int 0), (0, .ref h), (1, .int x1)]) hx hb dX11_leftOf_6 rfl hl (by decide) rfl (fun ls hl => ?_)
  refine lv_iconst (v := 0) hx hb dX11_leftOf_7 (by decide) ?_
  refine lv_istore (lv' := [(4, .int 0), (3, .int r2), (2, .int 0), (0, .ref h), (1, .int x1)]) hx hb dX11_leftOf_8 hl (by decide) rfl (fun ls hl => ?_)
  exact br_leftOf_10L fu _ _ _ _ _ hB p e s0 m below meth c A E H locs ls hP hD hS (lv_sub hl [3, 4, 2, 1, 0] rfl)
theorem cr_leftOf {l : Launch} {dC : Nat → ClassId} {dI : Nat → Nat → Nat} {cB cI cJ cZ cS : ClassId} {h : Nat} {a : Nat → Nat} {r : Int32} {s' : RS} {s : RS} {x1 : Int32} (hB : r_leftOf s x1 = some (r, s')) : CI l yX11_leftOf wsX11_leftOf ({ frames := 3, cells := 0, slots := 0, locals := 67 }) (dC, dI) (tysA cB cI cJ cZ cS) (mwS cB cI cJ cZ h a s) [.ref h, .int x1] (fun x u => x = r ∧ u = (mwS cB cI cJ cZ h a s')) :=
  CI_of (cc := cX11_leftOf) (maxL := 7) (ret := (some .int)) (by decide) rfl (Nat.le_of_ble_eq_true rfl) (br_leftOf _ _ hB)
set_option maxHeartbeats 4000000 in
set_option maxRecDepth 100000 in
theorem br_left {l : Launch} {dC : Nat → ClassId} {dI : Nat → Nat → Nat} {cB cI cJ cZ cS : ClassId} {h : Nat} {a : Nat → Nat} {as : List Value} {r : Int32} {s' : RS} (s : RS) (x1 : Int32) (hB : r_left s x1 = some (r, s')) : BlkI l yX11_left wsX11_left ({ frames := 4, cells := 0, slots := 0, locals := 93 }) cX11_left 2 (some .int) (dC, dI) (tysA cB cI cJ cZ cS) as 0 (mwS cB cI cJ cZ h a s) [(0, .ref h), (1, .int x1)] [] (fun x u => x = r ∧ u = (mwS cB cI cJ cZ h a s')) := by
  intro p e s0 m below meth c A E H locs ls hP hD hS hl
  obtain ⟨C, hr, hlocks, hA, hK, hN⟩ := id E
  obtain ⟨hx, hb, hml, hown, hts⟩ := id C
  unfold r_left at hB
  refine lv_aload_n hx hb dX11_left_0 rfl (lv_at hl 0 rfl) ?_
  refine lv_iload_n hx hb dX11_left_1 rfl (lv_at hl 1 rfl) ?_
  obtain ⟨q_, s1, hc, hB⟩ := bindI_inv hB
  refine q_goiF (va_runV (As := [.int x1]) (rest := []) C (cr_isGuess hc _) (cwV 1 hts gX11_left_X11_isGuess rfl rfl rfl (by decide +kernel) ⟨Nat.le_of_ble_eq_true rfl, Nat.le_of_ble_eq_true rfl⟩) (q_preV hK hP (ci := 11) (q0 := 0) rfl rfl rfl (q_preF hN hK hP hD)) rfl rfl hl.1 rfl (lv_room (Nat.le_of_ble_eq_true rfl)) dX11_left_2 ⟨Nat.le_of_ble_eq_true rfl, Nat.le_of_ble_eq_true rfl⟩) hD hS hA (fun r2 w1 H locs hw hP hD hS => ?_)
  obtain ⟨hq_, hw⟩ := hw; subst hw; subst hq_
  refine lv_if_ne (tgt := 10) hx hb dX11_left_5 (by decide) (fun c3 => ?_) (fun c3 => ?_)
  · have hB := if_n hB c3
    refine lv_aload_n hx hb dX11_left_10 rfl (lv_at hl 0 rfl) ?_
    obtain ⟨s4, hc, hB⟩ := bindP_inv hB
    refine q_govF (va_runV (As := []) (rest := []) C (cr_copies hc _) (cwV 0 hts gX11_left_X11_copies rfl rfl rfl (by decide +kernel) ⟨Nat.le_of_ble_eq_true rfl, Nat.le_of_ble_eq_true rfl⟩) (q_preV hK hP (ci := 11) (q0 := 0) rfl rfl rfl (q_preF hN hK hP hD)) rfl rfl hl.1 rfl (lv_room (Nat.le_of_ble_eq_true rfl)) dX11_left_11 ⟨Nat.le_of_ble_eq_true rfl, Nat.le_of_ble_eq_true rfl⟩) hD hS hA (fun w1 H locs hw hP hD hS => ?_)
    subst hw
    refine lv_aload_n hx hb dX11_left_14 rfl (lv_at hl 0 rfl) ?_
    obtain ⟨q_, s5, hc, hB⟩ := bindI_inv hB
    refine q_goiF (va_runV (As := []) (rest := []) C (cr_casesNow hc _) (cwV 0 hts gX11_left_X11_casesNow rfl rfl rfl (by decide +kernel) ⟨Nat.le_of_ble_eq_true rfl, Nat.le_of_ble_eq_true rfl⟩) (q_preV hK hP (ci := 11) (q0 := 0) rfl rfl rfl (q_preF hN hK hP hD)) rfl rfl hl.1 rfl (lv_room (Nat.le_of_ble_eq_true rfl)) dX11_left_15 ⟨Nat.le_of_ble_eq_true rfl, Nat.le_of_ble_eq_true rfl⟩) hD hS hA (fun r6 w1 H locs hw hP hD hS => ?_)
    obtain ⟨hq_, hw⟩ := hw; subst hw; subst hq_
    refine lv_if_ne (tgt := 26) hx hb dX11_left_18 (by decide) (fun c7 => ?_) (fun c7 => ?_)
    · have hB := if_n hB c7
      refine lv_aload_n hx hb dX11_left_26 rfl (lv_at hl 0 rfl) ?_
      refine lv_iload_n hx hb dX11_left_27 rfl (lv_at hl 1 rfl) ?_
      obtain ⟨q_, s8, hc, hB⟩ := bindI_inv hB
      refine q_goiF (va_runV (As := [.int x1]) (rest := []) C (cr_leftOf hc _) (cwV 1 hts gX11_left_X11_leftOf rfl rfl rfl (by decide +kernel) ⟨Nat.le_of_ble_eq_true rfl, Nat.le_of_ble_eq_true rfl⟩) (q_preV hK hP (ci := 11) (q0 := 0) rfl rfl rfl (q_preF hN hK hP hD)) rfl rfl hl.1 rfl (lv_room (Nat.le_of_ble_eq_true rfl)) dX11_left_28 ⟨Nat.le_of_ble_eq_true rfl, Nat.le_of_ble_eq_true rfl⟩) hD hS hA (fun r9 w1 H locs hw hP hD hS => ?_)
      obtain ⟨hq_, hw⟩ := hw; subst hw; subst hq_
      exact q_iret C hr hlocks hK hP hD hS (Nat.le_of_ble_eq_true rfl) (Nat.le_of_ble_eq_true rfl) dX11_left_31 (by cases hB; exact ⟨rfl, rfl⟩)
    · have hB := if_p hB c7
      refine lv_bipush (v := (-2)) hx hb dX11_left_21 (by decide) ?_
      refine lv_goto (tgt := 31) hx hb dX11_left_23 (by decide) ?_
      exact q_iret C hr hlocks hK hP hD hS (Nat.le_of_ble_eq_true rfl) (Nat.le_of_ble_eq_true rfl) dX11_left_31 (by cases hB; exact ⟨rfl, rfl⟩)
  · have hB := if_p hB c3
    refine lv_iconst (v := (-1)) hx hb dX11_left_8 (by decide) ?_
    exact q_iret C hr hlocks hK hP hD hS (Nat.le_of_ble_eq_true rfl) (Nat.le_of_ble_eq_true rfl) dX11_left_9 (by cases hB; exact ⟨rfl, rfl⟩)
theorem cr_left {l : Launch} {dC : Nat → ClassId} {dI : Nat → Nat → Nat} {cB cI cJ cZ cS : ClassId} {h : Nat} {a : Nat → Nat} {r : Int32} {s' : RS} {s : RS} {x1 : Int32} (hB : r_left s x1 = some (r, s')) : CI l yX11_left wsX11_left ({ frames := 4, cells := 0, slots := 0, locals := 93 }) (dC, dI) (tysA cB cI cJ cZ cS) (mwS cB cI cJ cZ h a s) [.ref h, .int x1] (fun x u => x = r ∧ u = (mwS cB cI cJ cZ h a s')) :=
  CI_of (cc := cX11_left) (maxL := 2) (ret := (some .int)) (by decide) rfl (Nat.le_of_ble_eq_true rfl) (br_left _ _ hB)
set_option maxHeartbeats 4000000 in
set_option maxRecDepth 100000 in
theorem br_wisest_68 {l : Launch} {dC : Nat → ClassId} {dI : Nat → Nat → Nat} {cB cI cJ cZ cS : ClassId} {h : Nat} {a : Nat → Nat} {as : List Value} {r : Int32} {s' : RS} {k36 : RS → Int32 → Int32 → Int32 → Int32 → Option (Int32 × RS)} (hk36 : ∀ (s : RS) (x1 : Int32) (x2 : Int32) (x3 : Int32) (x4 : Int32), k36 s x1 x2 x3 x4 = some (r, s') → BlkI l yX11_wisest wsX11_wisest ({ frames := 4, cells := 0, slots := 0, locals := 93 }) cX11_wisest 6 (some .int) (dC, dI) (tysA cB cI cJ cZ cS) as 36 (mwS cB cI cJ cZ h a s) [(0, .ref h), (1, .int x1), (2, .int x2), (3, .int x3), (4, .int x4)] [] (fun x u => x = r ∧ u = (mwS cB cI cJ cZ h a s'))) (s : RS) (x1 : Int32) (x2 : Int32) (x3 : Int32) (x4 : Int32) (hB : r_wisest_68 k36 s x1 x2 x3 x4 = some (r, s')) : BlkI l yX11_wisest wsX11_wisest ({ frames := 4, cells := 0, slots := 0, locals := 93 }) cX11_wisest 6 (some .int) (dC, dI) (tysA cB cI cJ cZ cS) as 68 (mwS cB cI cJ cZ h a s) [(0, .ref h), (1, .int x1), (2, .int x2), (3, .int x3), (4, .int x4)] [] (fun x u => x = r ∧ u = (mwS cB cI cJ cZ h a s')) := by
  intro p e s0 m below meth c A E H locs ls hP hD hS hl
  obtain ⟨C, hr, hlocks, hA, hK, hN⟩ := id E
  obtain ⟨hx, hb, hml, hown, hts⟩ := id C
  unfold r_wisest_68 at hB
  refine lv_iinc (v := (x4 + 1)) (lv' := [(4, .int (x4 + 1)), (0, .ref h), (1, .int x1), (2, .int x2), (3, .int x3)]) hx hb dX11_wisest_68 hl (k := 4) rfl (rfl) (by decide) rfl (fun ls hl => ?_)
  refine lv_goto (tgt := 36) hx hb dX11_wisest_71 (by decide) ?_
  exact hk36 _ _ _ _ _ hB p e s0 m below meth c A E H locs ls hP hD hS (lv_sub hl [1, 2, 3, 4, 0] rfl)
set_option maxHeartbeats 4000000 in
set_option maxRecDepth 100000 in
theorem br_wisest_36 {l : Launch} {dC : Nat → ClassId} {dI : Nat → Nat → Nat} {cB cI cJ cZ cS : ClassId} {h : Nat} {a : Nat → Nat} {as : List Value} {r : Int32} {s' : RS} {k36 : RS → Int32 → Int32 → Int32 → Int32 → Option (Int32 × RS)} (hk36 : ∀ (s : RS) (x1 : Int32) (x2 : Int32) (x3 : Int32) (x4 : Int32), k36 s x1 x2 x3 x4 = some (r, s') → BlkI l yX11_wisest wsX11_wisest ({ frames := 4, cells := 0, slots := 0, locals := 93 }) cX11_wisest 6 (some .int) (dC, dI) (tysA cB cI cJ cZ cS) as 36 (mwS cB cI cJ cZ h a s) [(0, .ref h), (1, .int x1), (2, .int x2), (3, .int x3), (4, .int x4)] [] (fun x u => x = r ∧ u = (mwS cB cI cJ cZ h a s'))) (s : RS) (x1 : Int32) (x2 : Int32) (x3 : Int32) (x4 : Int32) (hB : r_wisest_36 k36 s x1 x2 x3 x4 = some (r, s')) : BlkI l yX11_wisest wsX11_wisest ({ frames := 4, cells := 0, slots := 0, locals := 93 }) cX11_wisest 6 (some .int) (dC, dI) (tysA cB cI cJ cZ cS) as 36 (mwS cB cI cJ cZ h a s) [(0, .ref h), (1, .int x1), (2, .int x2), (3, .int x3), (4, .int x4)] [] (fun x u => x = r ∧ u = (mwS cB cI cJ cZ h a s')) := by
  intro p e s0 m below meth c A E H locs ls hP hD hS hl
  obtain ⟨C, hr, hlocks, hA, hK, hN⟩ := id E
  obtain ⟨hx, hb, hml, hown, hts⟩ := id C
  unfold r_wisest_36 at hB
  refine lv_iload hx hb dX11_wisest_36 (lv_at hl 4 rfl) ?_
  refine lv_aload_n hx hb dX11_wisest_38 rfl (lv_at hl 0 rfl) ?_
  obtain ⟨q_, s1, hc, hB⟩ := bindI_inv hB
  refine q_goiF (va_runV (As := []) (rest := [.int x4]) C (cr_guesses hc _) (cwV 0 hts gX11_wisest_X11_guesses rfl rfl rfl (by decide +kernel) ⟨Nat.le_of_ble_eq_true rfl, Nat.le_of_ble_eq_true rfl⟩) (q_preV hK hP (ci := 11) (q0 := 0) rfl rfl rfl (q_preF hN hK hP hD)) rfl rfl hl.1 rfl (lv_room (Nat.le_of_ble_eq_true rfl)) dX11_wisest_39 ⟨Nat.le_of_ble_eq_true rfl, Nat.le_of_ble_eq_true rfl⟩) hD hS hA (fun r2 w1 H locs hw hP hD hS => ?_)
  obtain ⟨hq_, hw⟩ := hw; subst hw; subst hq_
  refine lv_icmp_ge (tgt := 74) hx hb dX11_wisest_42 (by decide) (fun c3 => ?_) (fun c3 => ?_)
  · have hB := if_p hB c3
    refine lv_iload_n hx hb dX11_wisest_74 rfl (lv_at hl 1 rfl) ?_
    refine lv_if_ne (tgt := 82) hx hb dX11_wisest_75 (by decide) (fun c4 => ?_) (fun c4 => ?_)
    · have hB := if_n hB c4
      refine lv_iload_n hx hb dX11_wisest_82 rfl (lv_at hl 3 rfl) ?_
      exact q_iret C hr hlocks hK hP hD hS (Nat.le_of_ble_eq_true rfl) (Nat.le_of_ble_eq_true rfl) dX11_wisest_83 (by cases hB; exact ⟨rfl, rfl⟩)
    · have hB := if_p hB c4
      refine lv_iload_n hx hb dX11_wisest_78 rfl (lv_at hl 2 rfl) ?_
      refine lv_goto (tgt := 83) hx hb dX11_wisest_79 (by decide) ?_
      exact q_iret C hr hlocks hK hP hD hS (Nat.le_of_ble_eq_true rfl) (Nat.le_of_ble_eq_true rfl) dX11_wisest_83 (by cases hB; exact ⟨rfl, rfl⟩)
  · have hB := if_n hB c3
    refine lv_aload_n hx hb dX11_wisest_45 rfl (lv_at hl 0 rfl) ?_
    refine lv_iload hx hb dX11_wisest_46 (lv_at hl 4 rfl) ?_
    obtain ⟨q_, s5, hc, hB⟩ := bindI_inv hB
    refine q_goiF (va_runV (As := [.int x4]) (rest := []) C (cr_leftOf hc _) (cwV 1 hts gX11_wisest_X11_leftOf rfl rfl rfl (by decide +kernel) ⟨Nat.le_of_ble_eq_true rfl, Nat.le_of_ble_eq_true rfl⟩) (q_preV hK hP (ci := 11) (q0 := 0) rfl rfl rfl (q_preF hN hK hP hD)) rfl rfl hl.1 rfl (lv_room (Nat.le_of_ble_eq_true rfl)) dX11_wisest_48 ⟨Nat.le_of_ble_eq_true rfl, Nat.le_of_ble_eq_true rfl⟩) hD hS hA (fun r6 w1 H locs hw hP hD hS => ?_)
    obtain ⟨hq_, hw⟩ := hw; subst hw; subst hq_
    refine lv_istore (lv' := [(5, .int r6), (0, .ref h), (1, .int x1), (2, .int x2), (3, .int x3), (4, .int x4)]) hx hb dX11_wisest_51 hl (by decide) rfl (fun ls hl => ?_)
    refine lv_iload hx hb dX11_wisest_53 (lv_at hl 0 rfl) ?_
    refine lv_iload_n hx hb dX11_wisest_55 rfl (lv_at hl 4 rfl) ?_
    refine lv_icmp_lt (tgt := 62) hx hb dX11_wisest_56 (by decide) (fun c7 => ?_) (fun c7 => ?_)
    · have hB := if_p hB c7
      refine lv_iload hx hb dX11_wisest_62 (lv_at hl 5 rfl) ?_
      refine lv_istore_n (lv' := [(2, .int x4), (5, .int r6), (0, .ref h), (1, .int x1), (3, .int x3), (4, .int x4)]) hx hb dX11_wisest_64 rfl hl (by decide) rfl (fun ls hl => ?_)
      refine lv_iload hx hb dX11_wisest_65 (lv_at hl 1 rfl) ?_
      refine lv_istore_n (lv' := [(3, .int r6), (2, .int x4), (5, .int r6), (0, .ref h), (1, .int x1), (4, .int x4)]) hx hb dX11_wisest_67 rfl hl (by decide) rfl (fun ls hl => ?_)
      exact br_wisest_68 (hk36) _ _ _ _ _ hB p e s0 m below meth c A E H locs ls hP hD hS (lv_sub hl [3, 4, 1, 0, 5] rfl)
    · have hB := if_n hB c7
      refine lv_goto (tgt := 68) hx hb dX11_wisest_59 (by decide) ?_
      exact br_wisest_68 (hk36) _ _ _ _ _ hB p e s0 m below meth c A E H locs ls hP hD hS (lv_sub hl [1, 2, 3, 4, 5] rfl)
theorem br_wisest_36L {l : Launch} {dC : Nat → ClassId} {dI : Nat → Nat → Nat} {cB cI cJ cZ cS : ClassId} {h : Nat} {a : Nat → Nat} {as : List Value} {r : Int32} {s' : RS} : ∀ (n : Nat) (s : RS) (x1 : Int32) (x2 : Int32) (x3 : Int32) (x4 : Int32), r_wisest_36L n s x1 x2 x3 x4 = some (r, s') → BlkI l yX11_wisest wsX11_wisest ({ frames := 4, cells := 0, slots := 0, locals := 93 }) cX11_wisest 6 (some .int) (dC, dI) (tysA cB cI cJ cZ cS) as 36 (mwS cB cI cJ cZ h a s) [(0, .ref h), (1, .int x1), (2, .int x2), (3, .int x3), (4, .int x4)] [] (fun x u => x = r ∧ u = (mwS cB cI cJ cZ h a s')) := by
  intro n
  induction n with
  | zero => intro s x1 x2 x3 x4 hB; exact none_ne hB
  | succ n ih => intro s x1 x2 x3 x4 hB; exact br_wisest_36 ih _ _ _ _ _ hB
set_option maxHeartbeats 4000000 in
set_option maxRecDepth 100000 in
theorem br_wisest {l : Launch} {dC : Nat → ClassId} {dI : Nat → Nat → Nat} {cB cI cJ cZ cS : ClassId} {h : Nat} {a : Nat → Nat} {as : List Value} {r : Int32} {s' : RS} (s : RS) (x1 : Int32) (hB : r_wisest s x1 = some (r, s')) : BlkI l yX11_wisest wsX11_wisest ({ frames := 4, cells := 0, slots := 0, locals := 93 }) cX11_wisest 6 (some .int) (dC, dI) (tysA cB cI cJ cZ cS) as 0 (mwS cB cI cJ cZ h a s) [(0, .ref h), (1, .int x1)] [] (fun x u => x = r ∧ u = (mwS cB cI cJ cZ h a s')) := by
  intro p e s0 m below meth c A E H locs ls hP hD hS hl
  obtain ⟨C, hr, hlocks, hA, hK, hN⟩ := id E
  obtain ⟨hx, hb, hml, hown, hts⟩ := id C
  unfold r_wisest at hB
  refine lv_iload_n hx hb dX11_wisest_0 rfl (lv_at hl 1 rfl) ?_
  refine lv_iconst (v := 0) hx hb dX11_wisest_1 (by decide) ?_
  refine lv_iconst (v := 1) hx hb dX11_wisest_2 (by decide) ?_
  obtain ⟨q_, hc, hB⟩ := bindP_inv hB
  refine q_goi0 (va_runS (As := [.int x1, .int 0, .int 1]) (rest := []) C (cr_in hc _) (va_cwS 3 hts gX11_wisest_X11_in rfl rfl rfl (by decide +kernel) ⟨Nat.le_of_ble_eq_true rfl, Nat.le_of_ble_eq_true rfl⟩) (q_pre0 hN hK) rfl rfl hl.1 rfl (lv_room (Nat.le_of_ble_eq_true rfl)) dX11_wisest_3 ⟨Nat.le_of_ble_eq_true rfl, Nat.le_of_ble_eq_true rfl⟩) hP hD hS hA (fun r1 w1 H locs hw hP hS => ?_)
  subst hw
  refine lv_if_ne (tgt := 11) hx hb dX11_wisest_6 (by decide) (fun c2 => ?_) (fun c2 => ?_)
  · have hB := if_n hB c2
    refine lv_aload_n hx hb dX11_wisest_11 rfl (lv_at hl 0 rfl) ?_
    obtain ⟨s3, hc, hB⟩ := bindP_inv hB
    refine q_govF (va_runV (As := []) (rest := []) C (cr_copies hc _) (cwV 0 hts gX11_wisest_X11_copies rfl rfl rfl (by decide +kernel) ⟨Nat.le_of_ble_eq_true rfl, Nat.le_of_ble_eq_true rfl⟩) (q_preV hK hP (ci := 11) (q0 := 0) rfl rfl rfl (q_preF hN hK hP hD)) rfl rfl hl.1 rfl (lv_room (Nat.le_of_ble_eq_true rfl)) dX11_wisest_12 ⟨Nat.le_of_ble_eq_true rfl, Nat.le_of_ble_eq_true rfl⟩) hD hS hA (fun w1 H locs hw hP hD hS => ?_)
    subst hw
    refine lv_aload_n hx hb dX11_wisest_15 rfl (lv_at hl 0 rfl) ?_
    obtain ⟨q_, s4, hc, hB⟩ := bindI_inv hB
    refine q_goiF (va_runV (As := []) (rest := []) C (cr_casesNow hc _) (cwV 0 hts gX11_wisest_X11_casesNow rfl rfl rfl (by decide +kernel) ⟨Nat.le_of_ble_eq_true rfl, Nat.le_of_ble_eq_true rfl⟩) (q_preV hK hP (ci := 11) (q0 := 0) rfl rfl rfl (q_preF hN hK hP hD)) rfl rfl hl.1 rfl (lv_room (Nat.le_of_ble_eq_true rfl)) dX11_wisest_16 ⟨Nat.le_of_ble_eq_true rfl, Nat.le_of_ble_eq_true rfl⟩) hD hS hA (fun r5 w1 H locs hw hP hD hS => ?_)
    obtain ⟨hq_, hw⟩ := hw; subst hw; subst hq_
    refine lv_if_ne (tgt := 25) hx hb dX11_wisest_19 (by decide) (fun c6 => ?_) (fun c6 => ?_)
    · have hB := if_n hB c6
      refine lv_iconst (v := 0) hx hb dX11_wisest_25 (by decide) ?_
      refine lv_istore_n (lv' := [(2, .int 0), (0, .ref h), (1, .int x1)]) hx hb dX11_wisest_26 rfl hl (by decide) rfl (fun ls hl => ?_)
      refine lv_aload_n hx hb dX11_wisest_27 rfl (lv_at hl 1 rfl) ?_
      refine lv_iconst (v := 0) hx hb dX11_wisest_28 (by decide) ?_
      obtain ⟨q_, s7, hc, hB⟩ := bindI_inv hB
      refine q_goiF (va_runV (As := [.int 0]) (rest := []) C (cr_leftOf hc _) (cwV 1 hts gX11_wisest_X11_leftOf rfl rfl rfl (by decide +kernel) ⟨Nat.le_of_ble_eq_true rfl, Nat.le_of_ble_eq_true rfl⟩) (q_preV hK hP (ci := 11) (q0 := 0) rfl rfl rfl (q_preF hN hK hP hD)) rfl rfl hl.1 rfl (lv_room (Nat.le_of_ble_eq_true rfl)) dX11_wisest_29 ⟨Nat.le_of_ble_eq_true rfl, Nat.le_of_ble_eq_true rfl⟩) hD hS hA (fun r8 w1 H locs hw hP hD hS => ?_)
      obtain ⟨hq_, hw⟩ := hw; subst hw; subst hq_
      refine lv_istore_n (lv' := [(3, .int r8), (2, .int 0), (0, .ref h), (1, .int x1)]) hx hb dX11_wisest_32 rfl hl (by decide) rfl (fun ls hl => ?_)
      refine lv_iconst (v := 1) hx hb dX11_wisest_33 (by decide) ?_
      refine lv_istore (lv' := [(4, .int 1), (3, .int r8), (2, .int 0), (0, .ref h), (1, .int x1)]) hx hb dX11_wisest_34 hl (by decide) rfl (fun ls hl => ?_)
      exact br_wisest_36L fu _ _ _ _ _ hB p e s0 m below meth c A E H locs ls hP hD hS (lv_sub hl [3, 4, 2, 1, 0] rfl)
    · have hB := if_p hB c6
      refine lv_bipush (v := (-2)) hx hb dX11_wisest_22 (by decide) ?_
      exact q_iret C hr hlocks hK hP hD hS (Nat.le_of_ble_eq_true rfl) (Nat.le_of_ble_eq_true rfl) dX11_wisest_24 (by cases hB; exact ⟨rfl, rfl⟩)
  · have hB := if_p hB c2
    refine lv_iconst (v := (-1)) hx hb dX11_wisest_9 (by decide) ?_
    exact q_iret C hr hlocks hK hP hD hS (Nat.le_of_ble_eq_true rfl) (Nat.le_of_ble_eq_true rfl) dX11_wisest_10 (by cases hB; exact ⟨rfl, rfl⟩)
theorem cr_wisest {l : Launch} {dC : Nat → ClassId} {dI : Nat → Nat → Nat} {cB cI cJ cZ cS : ClassId} {h : Nat} {a : Nat → Nat} {r : Int32} {s' : RS} {s : RS} {x1 : Int32} (hB : r_wisest s x1 = some (r, s')) : CI l yX11_wisest wsX11_wisest ({ frames := 4, cells := 0, slots := 0, locals := 93 }) (dC, dI) (tysA cB cI cJ cZ cS) (mwS cB cI cJ cZ h a s) [.ref h, .int x1] (fun x u => x = r ∧ u = (mwS cB cI cJ cZ h a s')) :=
  CI_of (cc := cX11_wisest) (maxL := 6) (ret := (some .int)) (by decide) rfl (Nat.le_of_ble_eq_true rfl) (br_wisest _ _ hB)
end
section
theorem ggX11_fillsChances_X11_copies : GoodIn wsX11_fillsChances wsX11_copies := gi_sub (fun w h => List.mem_cons_of_mem _ (List.mem_append_left _ (List.mem_append_right _ (List.mem_append_left _ h)))) gd_wsX11_copies
set_option maxRecDepth 20000 in
theorem gX11_fillsChances_X11_copies : GoodIn wsX11_fillsChances (wsV RX11 352 RX11 yX11_copies wsX11_copies) := goodIn_app (goodIn_r _ [2, 3, 4, 5] (by decide +kernel) (by decide +kernel)) ggX11_fillsChances_X11_copies
theorem ggX11_fillsChances_X11_guesses : GoodIn wsX11_fillsChances wsX11_guesses := gi_sub (fun w h => List.mem_cons_of_mem _ (List.mem_append_left _ (List.mem_append_right _ (List.mem_append_right _ (List.mem_append_left _ h))))) gd_wsX11_guesses
set_option maxRecDepth 20000 in
theorem gX11_fillsChances_X11_guesses : GoodIn wsX11_fillsChances (wsV RX11 285 RX11 yX11_guesses wsX11_guesses) := goodIn_app (goodIn_r _ [6, 7, 8, 5] (by decide +kernel) (by decide +kernel)) ggX11_fillsChances_X11_guesses
theorem ggX11_fillsChances_X11_chanceOf : GoodIn wsX11_fillsChances wsX11_chanceOf := gi_sub (fun w h => List.mem_cons_of_mem _ (List.mem_append_left _ (List.mem_append_right _ (List.mem_append_right _ (List.mem_append_right _ h))))) gd_wsX11_chanceOf
set_option maxRecDepth 20000 in
theorem gX11_fillsChances_X11_chanceOf : GoodIn wsX11_fillsChances (wsV RX11 392 RX11 yX11_chanceOf wsX11_chanceOf) := goodIn_app (goodIn_r _ [9, 10, 11, 5] (by decide +kernel) (by decide +kernel)) ggX11_fillsChances_X11_chanceOf
theorem dX11_fillsChances_0 : decode cX11_fillsChances 0 = .ok (.aload_n 0, 1) := dc1_42 (by decide +kernel)
theorem dX11_fillsChances_1 : decode cX11_fillsChances 1 = .ok (.invokevirtual 352, 3) := dcw_182 (by decide +kernel)
theorem dX11_fillsChances_4 : decode cX11_fillsChances 4 = .ok (.iconst 0, 1) := dc1_3 (by decide +kernel)
theorem dX11_fillsChances_5 : decode cX11_fillsChances 5 = .ok (.istore_n 1, 1) := dc1_60 (by decide +kernel)
theorem dX11_fillsChances_6 : decode cX11_fillsChances 6 = .ok (.iload_n 1, 1) := dc1_27 (by decide +kernel)
theorem dX11_fillsChances_7 : decode cX11_fillsChances 7 = .ok (.aload_n 0, 1) := dc1_42 (by decide +kernel)
theorem dX11_fillsChances_8 : decode cX11_fillsChances 8 = .ok (.invokevirtual 285, 3) := dcw_182 (by decide +kernel)
theorem dX11_fillsChances_11 : decode cX11_fillsChances 11 = .ok (.if_icmp .ge 20, 3) := dcs_162 (n := 20) (by decide +kernel)
theorem dX11_fillsChances_14 : decode cX11_fillsChances 14 = .ok (.aload_n 0, 1) := dc1_42 (by decide +kernel)
theorem dX11_fillsChances_15 : decode cX11_fillsChances 15 = .ok (.getfield 113, 3) := dcw_180 (by decide +kernel)
theorem dX11_fillsChances_18 : decode cX11_fillsChances 18 = .ok (.iload_n 1, 1) := dc1_27 (by decide +kernel)
theorem dX11_fillsChances_19 : decode cX11_fillsChances 19 = .ok (.aload_n 0, 1) := dc1_42 (by decide +kernel)
theorem dX11_fillsChances_20 : decode cX11_fillsChances 20 = .ok (.iload_n 1, 1) := dc1_27 (by decide +kernel)
theorem dX11_fillsChances_21 : decode cX11_fillsChances 21 = .ok (.invokevirtual 392, 3) := dcw_182 (by decide +kernel)
theorem dX11_fillsChances_24 : decode cX11_fillsChances 24 = .ok (.iastore, 1) := dc1_79 (by decide +kernel)
theorem dX11_fillsChances_25 : decode cX11_fillsChances 25 = .ok (.iinc 1 1, 3) := dc_iinc (m := 1) (by decide +kernel)
theorem dX11_fillsChances_28 : decode cX11_fillsChances 28 = .ok (.goto (-22), 3) := dcs_167 (n := 65514) (by decide +kernel)
theorem dX11_fillsChances_31 : decode cX11_fillsChances 31 = .ok (.return_, 1) := dc1_177 (by decide +kernel)
theorem dX11_isAhead_0 : decode cX11_isAhead 0 = .ok (.aload_n 0, 1) := dc1_42 (by decide +kernel)
theorem dX11_isAhead_1 : decode cX11_isAhead 1 = .ok (.getfield 113, 3) := dcw_180 (by decide +kernel)
theorem dX11_isAhead_4 : decode cX11_isAhead 4 = .ok (.iload_n 1, 1) := dc1_27 (by decide +kernel)
theorem dX11_isAhead_5 : decode cX11_isAhead 5 = .ok (.iaload, 1) := dc1_46 (by decide +kernel)
theorem dX11_isAhead_6 : decode cX11_isAhead 6 = .ok (.aload_n 0, 1) := dc1_42 (by decide +kernel)
theorem dX11_isAhead_7 : decode cX11_isAhead 7 = .ok (.getfield 113, 3) := dcw_180 (by decide +kernel)
theorem dX11_isAhead_10 : decode cX11_isAhead 10 = .ok (.iload_n 2, 1) := dc1_28 (by decide +kernel)
theorem dX11_isAhead_11 : decode cX11_isAhead 11 = .ok (.iaload, 1) := dc1_46 (by decide +kernel)
theorem dX11_isAhead_12 : decode cX11_isAhead 12 = .ok (.if_icmp .gt 23, 3) := dcs_163 (n := 23) (by decide +kernel)
theorem dX11_isAhead_15 : decode cX11_isAhead 15 = .ok (.aload_n 0, 1) := dc1_42 (by decide +kernel)
theorem dX11_isAhead_16 : decode cX11_isAhead 16 = .ok (.getfield 113, 3) := dcw_180 (by decide +kernel)
theorem dX11_isAhead_19 : decode cX11_isAhead 19 = .ok (.iload_n 1, 1) := dc1_27 (by decide +kernel)
theorem dX11_isAhead_20 : decode cX11_isAhead 20 = .ok (.iaload, 1) := dc1_46 (by decide +kernel)
theorem dX11_isAhead_21 : decode cX11_isAhead 21 = .ok (.aload_n 0, 1) := dc1_42 (by decide +kernel)
theorem dX11_isAhead_22 : decode cX11_isAhead 22 = .ok (.getfield 113, 3) := dcw_180 (by decide +kernel)
theorem dX11_isAhead_25 : decode cX11_isAhead 25 = .ok (.iload_n 2, 1) := dc1_28 (by decide +kernel)
theorem dX11_isAhead_26 : decode cX11_isAhead 26 = .ok (.iaload, 1) := dc1_46 (by decide +kernel)
theorem dX11_isAhead_27 : decode cX11_isAhead 27 = .ok (.if_icmp .ne 12, 3) := dcs_160 (n := 12) (by decide +kernel)
theorem dX11_isAhead_30 : decode cX11_isAhead 30 = .ok (.iload_n 1, 1) := dc1_27 (by decide +kernel)
theorem dX11_isAhead_31 : decode cX11_isAhead 31 = .ok (.iload_n 2, 1) := dc1_28 (by decide +kernel)
theorem dX11_isAhead_32 : decode cX11_isAhead 32 = .ok (.if_icmp .ge 7, 3) := dcs_162 (n := 7) (by decide +kernel)
theorem dX11_isAhead_35 : decode cX11_isAhead 35 = .ok (.iconst 1, 1) := dc1_4 (by decide +kernel)
theorem dX11_isAhead_36 : decode cX11_isAhead 36 = .ok (.goto 4, 3) := dcs_167 (n := 4) (by decide +kernel)
theorem dX11_isAhead_39 : decode cX11_isAhead 39 = .ok (.iconst 0, 1) := dc1_3 (by decide +kernel)
theorem dX11_isAhead_40 : decode cX11_isAhead 40 = .ok (.ireturn, 1) := dc1_172 (by decide +kernel)
theorem ggX11_rank_X11_isGuess : GoodIn wsX11_rank wsX11_isGuess := gi_sub (fun w h => List.mem_cons_of_mem _ (List.mem_append_left _ (List.mem_append_right _ (List.mem_append_left _ h)))) gd_wsX11_isGuess
set_option maxRecDepth 20000 in
theorem gX11_rank_X11_isGuess : GoodIn wsX11_rank (wsV RX11 367 RX11 yX11_isGuess wsX11_isGuess) := goodIn_app (goodIn_r _ [1, 2, 3, 4] (by decide +kernel) (by decide +kernel)) ggX11_rank_X11_isGuess
theorem ggX11_rank_X11_fillsChances : GoodIn wsX11_rank wsX11_fillsChances := gi_sub (fun w h => List.mem_cons_of_mem _ (List.mem_append_left _ (List.mem_append_right _ (List.mem_append_right _ (List.mem_append_left _ h))))) gd_wsX11_fillsChances
set_option maxRecDepth 20000 in
theorem gX11_rank_X11_fillsChances : GoodIn wsX11_rank (wsV RX11 404 RX11 yX11_fillsChances wsX11_fillsChances) := goodIn_app (goodIn_r _ [8, 9, 10, 4] (by decide +kernel) (by decide +kernel)) ggX11_rank_X11_fillsChances
theorem ggX11_rank_X11_isCase : GoodIn wsX11_rank wsX11_isCase := gi_sub (fun w h => List.mem_cons_of_mem _ (List.mem_append_left _ (List.mem_append_right _ (List.mem_append_right _ (List.mem_append_right _ (List.mem_append_left _ h)))))) gd_wsX11_isCase
set_option maxRecDepth 20000 in
theorem gX11_rank_X11_isCase : GoodIn wsX11_rank (wsV RX11 407 RX11 yX11_isCase wsX11_isCase) := goodIn_app (goodIn_r _ [11, 12, 13, 4] (by decide +kernel) (by decide +kernel)) ggX11_rank_X11_isCase
theorem ggX11_rank_X11_guesses : GoodIn wsX11_rank wsX11_guesses := gi_sub (fun w h => List.mem_cons_of_mem _ (List.mem_append_left _ (List.mem_append_right _ (List.mem_append_right _ (List.mem_append_right _ (List.mem_append_right _ (List.mem_append_left _ h))))))) gd_wsX11_guesses
set_option maxRecDepth 20000 in
theorem gX11_rank_X11_guesses : GoodIn wsX11_rank (wsV RX11 285 RX11 yX11_guesses wsX11_guesses) := goodIn_app (goodIn_r _ [5, 6, 7, 4] (by decide +kernel) (by decide +kernel)) ggX11_rank_X11_guesses
theorem ggX11_rank_X11_isAhead : GoodIn wsX11_rank wsX11_isAhead := gi_sub (fun w h => List.mem_cons_of_mem _ (List.mem_append_left _ (List.mem_append_right _ (List.mem_append_right _ (List.mem_append_right _ (List.mem_append_right _ (List.mem_append_right _ h))))))) gd_wsX11_isAhead
set_option maxRecDepth 20000 in
theorem gX11_rank_X11_isAhead : GoodIn wsX11_rank (wsV RX11 410 RX11 yX11_isAhead wsX11_isAhead) := goodIn_app (goodIn_r _ [14, 15, 16, 4] (by decide +kernel) (by decide +kernel)) ggX11_rank_X11_isAhead
theorem dX11_rank_0 : decode cX11_rank 0 = .ok (.aload_n 0, 1) := dc1_42 (by decide +kernel)
theorem dX11_rank_1 : decode cX11_rank 1 = .ok (.iload_n 1, 1) := dc1_27 (by decide +kernel)
theorem dX11_rank_2 : decode cX11_rank 2 = .ok (.invokevirtual 367, 3) := dcw_182 (by decide +kernel)
theorem dX11_rank_5 : decode cX11_rank 5 = .ok (.ifCond .ne 5, 3) := dcs_154 (n := 5) (by decide +kernel)
theorem dX11_rank_8 : decode cX11_rank 8 = .ok (.iconst (-1), 1) := dc1_2 (by decide +kernel)
theorem dX11_rank_9 : decode cX11_rank 9 = .ok (.ireturn, 1) := dc1_172 (by decide +kernel)
theorem dX11_rank_10 : decode cX11_rank 10 = .ok (.aload_n 0, 1) := dc1_42 (by decide +kernel)
theorem dX11_rank_11 : decode cX11_rank 11 = .ok (.invokevirtual 404, 3) := dcw_182 (by decide +kernel)
theorem dX11_rank_14 : decode cX11_rank 14 = .ok (.aload_n 0, 1) := dc1_42 (by decide +kernel)
theorem dX11_rank_15 : decode cX11_rank 15 = .ok (.iload_n 1, 1) := dc1_27 (by decide +kernel)
theorem dX11_rank_16 : decode cX11_rank 16 = .ok (.invokevirtual 407, 3) := dcw_182 (by decide +kernel)
theorem dX11_rank_19 : decode cX11_rank 19 = .ok (.ifCond .ne 6, 3) := dcs_154 (n := 6) (by decide +kernel)
theorem dX11_rank_22 : decode cX11_rank 22 = .ok (.bipush (-2), 2) := dcb_16 (n := 254) (by decide +kernel)
theorem dX11_rank_24 : decode cX11_rank 24 = .ok (.ireturn, 1) := dc1_172 (by decide +kernel)
theorem dX11_rank_25 : decode cX11_rank 25 = .ok (.iconst 0, 1) := dc1_3 (by decide +kernel)
theorem dX11_rank_26 : decode cX11_rank 26 = .ok (.istore_n 2, 1) := dc1_61 (by decide +kernel)
theorem dX11_rank_27 : decode cX11_rank 27 = .ok (.iconst 0, 1) := dc1_3 (by decide +kernel)
theorem dX11_rank_28 : decode cX11_rank 28 = .ok (.istore_n 3, 1) := dc1_62 (by decide +kernel)
theorem dX11_rank_29 : decode cX11_rank 29 = .ok (.iload_n 3, 1) := dc1_29 (by decide +kernel)
theorem dX11_rank_30 : decode cX11_rank 30 = .ok (.aload_n 0, 1) := dc1_42 (by decide +kernel)
theorem dX11_rank_31 : decode cX11_rank 31 = .ok (.invokevirtual 285, 3) := dcw_182 (by decide +kernel)
theorem dX11_rank_34 : decode cX11_rank 34 = .ok (.if_icmp .ge 21, 3) := dcs_162 (n := 21) (by decide +kernel)
theorem dX11_rank_37 : decode cX11_rank 37 = .ok (.aload_n 0, 1) := dc1_42 (by decide +kernel)
theorem dX11_rank_38 : decode cX11_rank 38 = .ok (.iload_n 3, 1) := dc1_29 (by decide +kernel)
theorem dX11_rank_39 : decode cX11_rank 39 = .ok (.iload_n 1, 1) := dc1_27 (by decide +kernel)
theorem dX11_rank_40 : decode cX11_rank 40 = .ok (.invokevirtual 410, 3) := dcw_182 (by decide +kernel)
theorem dX11_rank_43 : decode cX11_rank 43 = .ok (.ifCond .eq 6, 3) := dcs_153 (n := 6) (by decide +kernel)
theorem dX11_rank_46 : decode cX11_rank 46 = .ok (.iinc 2 1, 3) := dc_iinc (m := 1) (by decide +kernel)
theorem dX11_rank_49 : decode cX11_rank 49 = .ok (.iinc 3 1, 3) := dc_iinc (m := 1) (by decide +kernel)
theorem dX11_rank_52 : decode cX11_rank 52 = .ok (.goto (-23), 3) := dcs_167 (n := 65513) (by decide +kernel)
theorem dX11_rank_55 : decode cX11_rank 55 = .ok (.iload_n 2, 1) := dc1_28 (by decide +kernel)
theorem dX11_rank_56 : decode cX11_rank 56 = .ok (.ireturn, 1) := dc1_172 (by decide +kernel)
theorem ggX11_ranked_X11_in : GoodIn wsX11_ranked wsX11_in := gi_sub (fun w h => List.mem_cons_of_mem _ (List.mem_append_left _ (List.mem_append_right _ (List.mem_append_left _ h)))) gd_wsX11_in
set_option maxRecDepth 20000 in
theorem gX11_ranked_X11_in : GoodIn wsX11_ranked (va_wsS RX11 281 yX11_in wsX11_in) := goodIn_app (goodIn_of _ (by decide +kernel)) ggX11_ranked_X11_in
theorem ggX11_ranked_X11_fillsChances : GoodIn wsX11_ranked wsX11_fillsChances := gi_sub (fun w h => List.mem_cons_of_mem _ (List.mem_append_left _ (List.mem_append_right _ (List.mem_append_right _ (List.mem_append_left _ h))))) gd_wsX11_fillsChances
set_option maxRecDepth 20000 in
theorem gX11_ranked_X11_fillsChances : GoodIn wsX11_ranked (wsV RX11 404 RX11 yX11_fillsChances wsX11_fillsChances) := goodIn_app (goodIn_r _ [5, 6, 7, 4] (by decide +kernel) (by decide +kernel)) ggX11_ranked_X11_fillsChances
theorem ggX11_ranked_X11_guesses : GoodIn wsX11_ranked wsX11_guesses := gi_sub (fun w h => List.mem_cons_of_mem _ (List.mem_append_left _ (List.mem_append_right _ (List.mem_append_right _ (List.mem_append_right _ (List.mem_append_left _ h)))))) gd_wsX11_guesses
set_option maxRecDepth 20000 in
theorem gX11_ranked_X11_guesses : GoodIn wsX11_ranked (wsV RX11 285 RX11 yX11_guesses wsX11_guesses) := goodIn_app (goodIn_r _ [8, 9, 10, 4] (by decide +kernel) (by decide +kernel)) ggX11_ranked_X11_guesses
theorem ggX11_ranked_X11_isAhead : GoodIn wsX11_ranked wsX11_isAhead := gi_sub (fun w h => List.mem_cons_of_mem _ (List.mem_append_left _ (List.mem_append_right _ (List.mem_append_right _ (List.mem_append_right _ (List.mem_append_right _ h)))))) gd_wsX11_isAhead
set_option maxRecDepth 20000 in
theorem gX11_ranked_X11_isAhead : GoodIn wsX11_ranked (wsV RX11 410 RX11 yX11_isAhead wsX11_isAhead) := goodIn_app (goodIn_r _ [11, 12, 13, 4] (by decide +kernel) (by decide +kernel)) ggX11_ranked_X11_isAhead
theorem dX11_ranked_0 : decode cX11_ranked 0 = .ok (.iload_n 1, 1) := dc1_27 (by decide +kernel)
theorem dX11_ranked_1 : decode cX11_ranked 1 = .ok (.iconst 0, 1) := dc1_3 (by decide +kernel)
theorem dX11_ranked_2 : decode cX11_ranked 2 = .ok (.bipush 19, 2) := dcb_16 (n := 19) (by decide +kernel)
theorem dX11_ranked_4 : decode cX11_ranked 4 = .ok (.invokestatic 281, 3) := dcw_184 (by decide +kernel)
theorem dX11_ranked_7 : decode cX11_ranked 7 = .ok (.ifCond .ne 5, 3) := dcs_154 (n := 5) (by decide +kernel)
theorem dX11_ranked_10 : decode cX11_ranked 10 = .ok (.iconst (-1), 1) := dc1_2 (by decide +kernel)
theorem dX11_ranked_11 : decode cX11_ranked 11 = .ok (.ireturn, 1) := dc1_172 (by decide +kernel)
theorem dX11_ranked_12 : decode cX11_ranked 12 = .ok (.aload_n 0, 1) := dc1_42 (by decide +kernel)
theorem dX11_ranked_13 : decode cX11_ranked 13 = .ok (.invokevirtual 404, 3) := dcw_182 (by decide +kernel)
theorem dX11_ranked_16 : decode cX11_ranked 16 = .ok (.iconst (-1), 1) := dc1_2 (by decide +kernel)
theorem dX11_ranked_17 : decode cX11_ranked 17 = .ok (.istore_n 2, 1) := dc1_61 (by decide +kernel)
theorem dX11_ranked_18 : decode cX11_ranked 18 = .ok (.iconst 0, 1) := dc1_3 (by decide +kernel)
theorem dX11_ranked_19 : decode cX11_ranked 19 = .ok (.istore_n 3, 1) := dc1_62 (by decide +kernel)
theorem dX11_ranked_20 : decode cX11_ranked 20 = .ok (.iload_n 3, 1) := dc1_29 (by decide +kernel)
theorem dX11_ranked_21 : decode cX11_ranked 21 = .ok (.iload_n 1, 1) := dc1_27 (by decide +kernel)
theorem dX11_ranked_22 : decode cX11_ranked 22 = .ok (.if_icmp .gt 84, 3) := dcs_163 (n := 84) (by decide +kernel)
theorem dX11_ranked_25 : decode cX11_ranked 25 = .ok (.iconst (-1), 1) := dc1_2 (by decide +kernel)
theorem dX11_ranked_26 : decode cX11_ranked 26 = .ok (.istore 4, 2) := dcu_54 (by decide +kernel)
theorem dX11_ranked_28 : decode cX11_ranked 28 = .ok (.iconst 0, 1) := dc1_3 (by decide +kernel)
theorem dX11_ranked_29 : decode cX11_ranked 29 = .ok (.istore 5, 2) := dcu_54 (by decide +kernel)
theorem dX11_ranked_31 : decode cX11_ranked 31 = .ok (.iload 5, 2) := dcu_21 (by decide +kernel)
theorem dX11_ranked_33 : decode cX11_ranked 33 = .ok (.aload_n 0, 1) := dc1_42 (by decide +kernel)
theorem dX11_ranked_34 : decode cX11_ranked 34 = .ok (.invokevirtual 285, 3) := dcw_182 (by decide +kernel)
theorem dX11_ranked_37 : decode cX11_ranked 37 = .ok (.if_icmp .ge 53, 3) := dcs_162 (n := 53) (by decide +kernel)
theorem dX11_ranked_40 : decode cX11_ranked 40 = .ok (.aload_n 0, 1) := dc1_42 (by decide +kernel)
theorem dX11_ranked_41 : decode cX11_ranked 41 = .ok (.getfield 113, 3) := dcw_180 (by decide +kernel)
theorem dX11_ranked_44 : decode cX11_ranked 44 = .ok (.iload 5, 2) := dcu_21 (by decide +kernel)
theorem dX11_ranked_46 : decode cX11_ranked 46 = .ok (.iaload, 1) := dc1_46 (by decide +kernel)
theorem dX11_ranked_47 : decode cX11_ranked 47 = .ok (.ifCond .le 37, 3) := dcs_158 (n := 37) (by decide +kernel)
theorem dX11_ranked_50 : decode cX11_ranked 50 = .ok (.iload_n 2, 1) := dc1_28 (by decide +kernel)
theorem dX11_ranked_51 : decode cX11_ranked 51 = .ok (.ifCond .lt 13, 3) := dcs_155 (n := 13) (by decide +kernel)
theorem dX11_ranked_54 : decode cX11_ranked 54 = .ok (.aload_n 0, 1) := dc1_42 (by decide +kernel)
theorem dX11_ranked_55 : decode cX11_ranked 55 = .ok (.iload_n 2, 1) := dc1_28 (by decide +kernel)
theorem dX11_ranked_56 : decode cX11_ranked 56 = .ok (.iload 5, 2) := dcu_21 (by decide +kernel)
theorem dX11_ranked_58 : decode cX11_ranked 58 = .ok (.invokevirtual 410, 3) := dcw_182 (by decide +kernel)
theorem dX11_ranked_61 : decode cX11_ranked 61 = .ok (.ifCond .eq 23, 3) := dcs_153 (n := 23) (by decide +kernel)
theorem dX11_ranked_64 : decode cX11_ranked 64 = .ok (.iload 4, 2) := dcu_21 (by decide +kernel)
theorem dX11_ranked_66 : decode cX11_ranked 66 = .ok (.ifCond .lt 14, 3) := dcs_155 (n := 14) (by decide +kernel)
theorem dX11_ranked_69 : decode cX11_ranked 69 = .ok (.aload_n 0, 1) := dc1_42 (by decide +kernel)
theorem dX11_ranked_70 : decode cX11_ranked 70 = .ok (.iload 5, 2) := dcu_21 (by decide +kernel)
theorem dX11_ranked_72 : decode cX11_ranked 72 = .ok (.iload 4, 2) := dcu_21 (by decide +kernel)
theorem dX11_ranked_74 : decode cX11_ranked 74 = .ok (.invokevirtual 410, 3) := dcw_182 (by decide +kernel)
theorem dX11_ranked_77 : decode cX11_ranked 77 = .ok (.ifCond .eq 7, 3) := dcs_153 (n := 7) (by decide +kernel)
theorem dX11_ranked_80 : decode cX11_ranked 80 = .ok (.iload 5, 2) := dcu_21 (by decide +kernel)
theorem dX11_ranked_82 : decode cX11_ranked 82 = .ok (.istore 4, 2) := dcu_54 (by decide +kernel)
theorem dX11_ranked_84 : decode cX11_ranked 84 = .ok (.iinc 5 1, 3) := dc_iinc (m := 1) (by decide +kernel)
theorem dX11_ranked_87 : decode cX11_ranked 87 = .ok (.goto (-56), 3) := dcs_167 (n := 65480) (by decide +kernel)
theorem dX11_ranked_90 : decode cX11_ranked 90 = .ok (.iload 4, 2) := dcu_21 (by decide +kernel)
theorem dX11_ranked_92 : decode cX11_ranked 92 = .ok (.ifCond .ge 5, 3) := dcs_156 (n := 5) (by decide +kernel)
theorem dX11_ranked_95 : decode cX11_ranked 95 = .ok (.iconst (-1), 1) := dc1_2 (by decide +kernel)
theorem dX11_ranked_96 : decode cX11_ranked 96 = .ok (.ireturn, 1) := dc1_172 (by decide +kernel)
theorem dX11_ranked_97 : decode cX11_ranked 97 = .ok (.iload 4, 2) := dcu_21 (by decide +kernel)
theorem dX11_ranked_99 : decode cX11_ranked 99 = .ok (.istore_n 2, 1) := dc1_61 (by decide +kernel)
theorem dX11_ranked_100 : decode cX11_ranked 100 = .ok (.iinc 3 1, 3) := dc_iinc (m := 1) (by decide +kernel)
theorem dX11_ranked_103 : decode cX11_ranked 103 = .ok (.goto (-83), 3) := dcs_167 (n := 65453) (by decide +kernel)
theorem dX11_ranked_106 : decode cX11_ranked 106 = .ok (.iload_n 2, 1) := dc1_28 (by decide +kernel)
theorem dX11_ranked_107 : decode cX11_ranked 107 = .ok (.ireturn, 1) := dc1_172 (by decide +kernel)
theorem ggX11_share_X11_isWave : GoodIn wsX11_share wsX11_isWave := gi_sub (fun w h => List.mem_cons_of_mem _ (List.mem_append_left _ (List.mem_append_right _ (List.mem_append_left _ h)))) gd_wsX11_isWave
set_option maxRecDepth 20000 in
theorem gX11_share_X11_isWave : GoodIn wsX11_share (wsV RX11 349 RX11 yX11_isWave wsX11_isWave) := goodIn_app (goodIn_r _ [3, 4, 5, 6] (by decide +kernel) (by decide +kernel)) ggX11_share_X11_isWave
theorem ggX11_share_X11_isThing : GoodIn wsX11_share wsX11_isThing := gi_sub (fun w h => List.mem_cons_of_mem _ (List.mem_append_left _ (List.mem_append_right _ (List.mem_append_right _ (List.mem_append_left _ h))))) gd_wsX11_isThing
set_option maxRecDepth 20000 in
theorem gX11_share_X11_isThing : GoodIn wsX11_share (va_wsS RX11 355 yX11_isThing wsX11_isThing) := goodIn_app (goodIn_of _ (by decide +kernel)) ggX11_share_X11_isThing
theorem ggX11_share_X11_copies : GoodIn wsX11_share wsX11_copies := gi_sub (fun w h => List.mem_cons_of_mem _ (List.mem_append_left _ (List.mem_append_right _ (List.mem_append_right _ (List.mem_append_right _ (List.mem_append_left _ h)))))) gd_wsX11_copies
set_option maxRecDepth 20000 in
theorem gX11_share_X11_copies : GoodIn wsX11_share (wsV RX11 352 RX11 yX11_copies wsX11_copies) := goodIn_app (goodIn_r _ [9, 10, 11, 6] (by decide +kernel) (by decide +kernel)) ggX11_share_X11_copies
theorem ggX11_share_X11_mayBe : GoodIn wsX11_share wsX11_mayBe := gi_sub (fun w h => List.mem_cons_of_mem _ (List.mem_append_left _ (List.mem_append_right _ (List.mem_append_right _ (List.mem_append_right _ (List.mem_append_right _ (List.mem_append_left _ h))))))) gd_wsX11_mayBe
set_option maxRecDepth 20000 in
theorem gX11_share_X11_mayBe : GoodIn wsX11_share (wsV RX11 388 RX11 yX11_mayBe wsX11_mayBe) := goodIn_app (goodIn_r _ [12, 13, 14, 6] (by decide +kernel) (by decide +kernel)) ggX11_share_X11_mayBe
theorem ggX11_share_X11_oddsAt : GoodIn wsX11_share wsX11_oddsAt := gi_sub (fun w h => List.mem_cons_of_mem _ (List.mem_append_left _ (List.mem_append_right _ (List.mem_append_right _ (List.mem_append_right _ (List.mem_append_right _ (List.mem_append_right _ (List.mem_append_left _ h)))))))) gd_wsX11_oddsAt
set_option maxRecDepth 20000 in
theorem gX11_share_X11_oddsAt : GoodIn wsX11_share (wsV RX11 297 RX11 yX11_oddsAt wsX11_oddsAt) := goodIn_app (goodIn_r _ [15, 16, 17, 6] (by decide +kernel) (by decide +kernel)) ggX11_share_X11_oddsAt
theorem ggX11_share_X11_sumAt : GoodIn wsX11_share wsX11_sumAt := gi_sub (fun w h => List.mem_cons_of_mem _ (List.mem_append_left _ (List.mem_append_right _ (List.mem_append_right _ (List.mem_append_right _ (List.mem_append_right _ (List.mem_append_right _ (List.mem_append_right _ h)))))))) gd_wsX11_sumAt
set_option maxRecDepth 20000 in
theorem gX11_share_X11_sumAt : GoodIn wsX11_share (wsV RX11 395 RX11 yX11_sumAt wsX11_sumAt) := goodIn_app (goodIn_r _ [18, 19, 20, 6] (by decide +kernel) (by decide +kernel)) ggX11_share_X11_sumAt
theorem dX11_share_0 : decode cX11_share 0 = .ok (.aload_n 0, 1) := dc1_42 (by decide +kernel)
theorem dX11_share_1 : decode cX11_share 1 = .ok (.iload_n 1, 1) := dc1_27 (by decide +kernel)
theorem dX11_share_2 : decode cX11_share 2 = .ok (.invokevirtual 349, 3) := dcw_182 (by decide +kernel)
theorem dX11_share_5 : decode cX11_share 5 = .ok (.ifCond .eq 10, 3) := dcs_153 (n := 10) (by decide +kernel)
theorem dX11_share_8 : decode cX11_share 8 = .ok (.iload_n 2, 1) := dc1_28 (by decide +kernel)
theorem dX11_share_9 : decode cX11_share 9 = .ok (.invokestatic 355, 3) := dcw_184 (by decide +kernel)
theorem dX11_share_12 : decode cX11_share 12 = .ok (.ifCond .ne 5, 3) := dcs_154 (n := 5) (by decide +kernel)
theorem dX11_share_15 : decode cX11_share 15 = .ok (.iconst (-1), 1) := dc1_2 (by decide +kernel)
theorem dX11_share_16 : decode cX11_share 16 = .ok (.ireturn, 1) := dc1_172 (by decide +kernel)
theorem dX11_share_17 : decode cX11_share 17 = .ok (.aload_n 0, 1) := dc1_42 (by decide +kernel)
theorem dX11_share_18 : decode cX11_share 18 = .ok (.invokevirtual 352, 3) := dcw_182 (by decide +kernel)
theorem dX11_share_21 : decode cX11_share 21 = .ok (.aload_n 0, 1) := dc1_42 (by decide +kernel)
theorem dX11_share_22 : decode cX11_share 22 = .ok (.iload_n 1, 1) := dc1_27 (by decide +kernel)
theorem dX11_share_23 : decode cX11_share 23 = .ok (.iload_n 2, 1) := dc1_28 (by decide +kernel)
theorem dX11_share_24 : decode cX11_share 24 = .ok (.invokevirtual 388, 3) := dcw_182 (by decide +kernel)
theorem dX11_share_27 : decode cX11_share 27 = .ok (.ifCond .eq 12, 3) := dcs_153 (n := 12) (by decide +kernel)
theorem dX11_share_30 : decode cX11_share 30 = .ok (.aload_n 0, 1) := dc1_42 (by decide +kernel)
theorem dX11_share_31 : decode cX11_share 31 = .ok (.iload_n 1, 1) := dc1_27 (by decide +kernel)
theorem dX11_share_32 : decode cX11_share 32 = .ok (.iload_n 2, 1) := dc1_28 (by decide +kernel)
theorem dX11_share_33 : decode cX11_share 33 = .ok (.invokevirtual 297, 3) := dcw_182 (by decide +kernel)
theorem dX11_share_36 : decode cX11_share 36 = .ok (.goto 4, 3) := dcs_167 (n := 4) (by decide +kernel)
theorem dX11_share_39 : decode cX11_share 39 = .ok (.iconst 0, 1) := dc1_3 (by decide +kernel)
theorem dX11_share_40 : decode cX11_share 40 = .ok (.istore_n 3, 1) := dc1_62 (by decide +kernel)
theorem dX11_share_41 : decode cX11_share 41 = .ok (.iconst 0, 1) := dc1_3 (by decide +kernel)
theorem dX11_share_42 : decode cX11_share 42 = .ok (.istore 4, 2) := dcu_54 (by decide +kernel)
theorem dX11_share_44 : decode cX11_share 44 = .ok (.iload 4, 2) := dcu_21 (by decide +kernel)
theorem dX11_share_46 : decode cX11_share 46 = .ok (.aload_n 0, 1) := dc1_42 (by decide +kernel)
theorem dX11_share_47 : decode cX11_share 47 = .ok (.getfield 40, 3) := dcw_180 (by decide +kernel)
theorem dX11_share_50 : decode cX11_share 50 = .ok (.aload_n 0, 1) := dc1_42 (by decide +kernel)
theorem dX11_share_51 : decode cX11_share 51 = .ok (.getfield 215, 3) := dcw_180 (by decide +kernel)
theorem dX11_share_54 : decode cX11_share 54 = .ok (.iaload, 1) := dc1_46 (by decide +kernel)
theorem dX11_share_55 : decode cX11_share 55 = .ok (.if_icmp .ge 24, 3) := dcs_162 (n := 24) (by decide +kernel)
theorem dX11_share_58 : decode cX11_share 58 = .ok (.iload 4, 2) := dcu_21 (by decide +kernel)
theorem dX11_share_60 : decode cX11_share 60 = .ok (.iload_n 1, 1) := dc1_27 (by decide +kernel)
theorem dX11_share_61 : decode cX11_share 61 = .ok (.if_icmp .eq 12, 3) := dcs_159 (n := 12) (by decide +kernel)
theorem dX11_share_64 : decode cX11_share 64 = .ok (.iload_n 3, 1) := dc1_29 (by decide +kernel)
theorem dX11_share_65 : decode cX11_share 65 = .ok (.aload_n 0, 1) := dc1_42 (by decide +kernel)
theorem dX11_share_66 : decode cX11_share 66 = .ok (.iload 4, 2) := dcu_21 (by decide +kernel)
theorem dX11_share_68 : decode cX11_share 68 = .ok (.invokevirtual 395, 3) := dcw_182 (by decide +kernel)
theorem dX11_share_71 : decode cX11_share 71 = .ok (.imul, 1) := dc1_104 (by decide +kernel)
theorem dX11_share_72 : decode cX11_share 72 = .ok (.istore_n 3, 1) := dc1_62 (by decide +kernel)
theorem dX11_share_73 : decode cX11_share 73 = .ok (.iinc 4 1, 3) := dc_iinc (m := 1) (by decide +kernel)
theorem dX11_share_76 : decode cX11_share 76 = .ok (.goto (-32), 3) := dcs_167 (n := 65504) (by decide +kernel)
theorem dX11_share_79 : decode cX11_share 79 = .ok (.iload_n 3, 1) := dc1_29 (by decide +kernel)
theorem dX11_share_80 : decode cX11_share 80 = .ok (.ireturn, 1) := dc1_172 (by decide +kernel)
theorem ggX11_comesOver_X11_copies : GoodIn wsX11_comesOver wsX11_copies := gi_sub (fun w h => List.mem_cons_of_mem _ (List.mem_append_left _ (List.mem_append_right _ (List.mem_append_left _ h)))) gd_wsX11_copies
set_option maxRecDepth 20000 in
theorem gX11_comesOver_X11_copies : GoodIn wsX11_comesOver (wsV RX11 352 RX11 yX11_copies wsX11_copies) := goodIn_app (goodIn_r _ [2, 3, 4, 5] (by decide +kernel) (by decide +kernel)) ggX11_comesOver_X11_copies
theorem ggX11_comesOver_X11_bestFor : GoodIn wsX11_comesOver wsX11_bestFor := gi_sub (fun w h => List.mem_cons_of_mem _ (List.mem_append_left _ (List.mem_append_right _ (List.mem_append_right _ (List.mem_append_left _ h))))) gd_wsX11_bestFor
set_option maxRecDepth 20000 in
theorem gX11_comesOver_X11_bestFor : GoodIn wsX11_comesOver (wsV RX11 398 RX11 yX11_bestFor wsX11_bestFor) := goodIn_app (goodIn_r _ [6, 7, 8, 5] (by decide +kernel) (by decide +kernel)) ggX11_comesOver_X11_bestFor
theorem ggX11_comesOver_X11_goesBy : GoodIn wsX11_comesOver wsX11_goesBy := gi_sub (fun w h => List.mem_cons_of_mem _ (List.mem_append_left _ (List.mem_append_right _ (List.mem_append_right _ (List.mem_append_right _ h))))) gd_wsX11_goesBy
set_option maxRecDepth 20000 in
theorem gX11_comesOver_X11_goesBy : GoodIn wsX11_comesOver (wsV RX11 373 RX11 yX11_goesBy wsX11_goesBy) := goodIn_app (goodIn_r _ [9, 10, 11, 5] (by decide +kernel) (by decide +kernel)) ggX11_comesOver_X11_goesBy
theorem dX11_comesOver_0 : decode cX11_comesOver 0 = .ok (.aload_n 0, 1) := dc1_42 (by decide +kernel)
theorem dX11_comesOver_1 : decode cX11_comesOver 1 = .ok (.invokevirtual 352, 3) := dcw_182 (by decide +kernel)
theorem dX11_comesOver_4 : decode cX11_comesOver 4 = .ok (.iconst 0, 1) := dc1_3 (by decide +kernel)
theorem dX11_comesOver_5 : decode cX11_comesOver 5 = .ok (.istore 4, 2) := dcu_54 (by decide +kernel)
theorem dX11_comesOver_7 : decode cX11_comesOver 7 = .ok (.iload 4, 2) := dcu_21 (by decide +kernel)
theorem dX11_comesOver_9 : decode cX11_comesOver 9 = .ok (.iload_n 3, 1) := dc1_29 (by decide +kernel)
theorem dX11_comesOver_10 : decode cX11_comesOver 10 = .ok (.if_icmp .ge 47, 3) := dcs_162 (n := 47) (by decide +kernel)
theorem dX11_comesOver_13 : decode cX11_comesOver 13 = .ok (.aload_n 0, 1) := dc1_42 (by decide +kernel)
theorem dX11_comesOver_14 : decode cX11_comesOver 14 = .ok (.iload_n 1, 1) := dc1_27 (by decide +kernel)
theorem dX11_comesOver_15 : decode cX11_comesOver 15 = .ok (.invokevirtual 398, 3) := dcw_182 (by decide +kernel)
theorem dX11_comesOver_18 : decode cX11_comesOver 18 = .ok (.istore 5, 2) := dcu_54 (by decide +kernel)
theorem dX11_comesOver_20 : decode cX11_comesOver 20 = .ok (.iload 5, 2) := dcu_21 (by decide +kernel)
theorem dX11_comesOver_22 : decode cX11_comesOver 22 = .ok (.ifCond .ge 5, 3) := dcs_156 (n := 5) (by decide +kernel)
theorem dX11_comesOver_25 : decode cX11_comesOver 25 = .ok (.iconst 0, 1) := dc1_3 (by decide +kernel)
theorem dX11_comesOver_26 : decode cX11_comesOver 26 = .ok (.ireturn, 1) := dc1_172 (by decide +kernel)
theorem dX11_comesOver_27 : decode cX11_comesOver 27 = .ok (.aload_n 0, 1) := dc1_42 (by decide +kernel)
theorem dX11_comesOver_28 : decode cX11_comesOver 28 = .ok (.iload_n 1, 1) := dc1_27 (by decide +kernel)
theorem dX11_comesOver_29 : decode cX11_comesOver 29 = .ok (.iload 5, 2) := dcu_21 (by decide +kernel)
theorem dX11_comesOver_31 : decode cX11_comesOver 31 = .ok (.iload_n 2, 1) := dc1_28 (by decide +kernel)
theorem dX11_comesOver_32 : decode cX11_comesOver 32 = .ok (.invokevirtual 373, 3) := dcw_182 (by decide +kernel)
theorem dX11_comesOver_35 : decode cX11_comesOver 35 = .ok (.pop, 1) := dc1_87 (by decide +kernel)
theorem dX11_comesOver_36 : decode cX11_comesOver 36 = .ok (.aload_n 0, 1) := dc1_42 (by decide +kernel)
theorem dX11_comesOver_37 : decode cX11_comesOver 37 = .ok (.getfield 101, 3) := dcw_180 (by decide +kernel)
theorem dX11_comesOver_40 : decode cX11_comesOver 40 = .ok (.bipush 15, 2) := dcb_16 (n := 15) (by decide +kernel)
theorem dX11_comesOver_42 : decode cX11_comesOver 42 = .ok (.iload_n 1, 1) := dc1_27 (by decide +kernel)
theorem dX11_comesOver_43 : decode cX11_comesOver 43 = .ok (.iadd, 1) := dc1_96 (by decide +kernel)
theorem dX11_comesOver_44 : decode cX11_comesOver 44 = .ok (.iaload, 1) := dc1_46 (by decide +kernel)
theorem dX11_comesOver_45 : decode cX11_comesOver 45 = .ok (.iconst 2, 1) := dc1_5 (by decide +kernel)
theorem dX11_comesOver_46 : decode cX11_comesOver 46 = .ok (.if_icmp .ne 5, 3) := dcs_160 (n := 5) (by decide +kernel)
theorem dX11_comesOver_49 : decode cX11_comesOver 49 = .ok (.iconst 1, 1) := dc1_4 (by decide +kernel)
theorem dX11_comesOver_50 : decode cX11_comesOver 50 = .ok (.ireturn, 1) := dc1_172 (by decide +kernel)
theorem dX11_comesOver_51 : decode cX11_comesOver 51 = .ok (.iinc 4 1, 3) := dc_iinc (m := 1) (by decide +kernel)
theorem dX11_comesOver_54 : decode cX11_comesOver 54 = .ok (.goto (-47), 3) := dcs_167 (n := 65489) (by decide +kernel)
theorem dX11_comesOver_57 : decode cX11_comesOver 57 = .ok (.iconst 0, 1) := dc1_3 (by decide +kernel)
theorem dX11_comesOver_58 : decode cX11_comesOver 58 = .ok (.ireturn, 1) := dc1_172 (by decide +kernel)
theorem LX11_fillsChances_113 : Cond.fieldLink RX11 113 "GuessFerryModel" "chanceBy" "[I" ∈ wsX11_fillsChances := (List.mem_cons_of_mem _ (List.mem_append_left _ (List.mem_append_left _ (List.mem_of_getElem? (i := 0) rfl))))
theorem inX11_fillsChances_X11 : ∀ w ∈ u_ws RX11 TX11 58, w ∈ wsX11_fillsChances := fun w h => (List.mem_cons_of_mem _ (List.mem_append_right _ h))
set_option maxHeartbeats 4000000 in
set_option maxRecDepth 100000 in
theorem br_fillsChances_6 {l : Launch} {dC : Nat → ClassId} {dI : Nat → Nat → Nat} {cB cI cJ cZ cS : ClassId} {h : Nat} {a : Nat → Nat} {as : List Value} {s' : RS} {k6 : RS → Int32 → Option RS} (hk6 : ∀ (s : RS) (x1 : Int32), k6 s x1 = some s' → BlkV l yX11_fillsChances wsX11_fillsChances ({ frames := 4, cells := 0, slots := 0, locals := 91 }) cX11_fillsChances 2 none (dC, dI) (tysA cB cI cJ cZ cS) as 6 (mwS cB cI cJ cZ h a s) [(0, .ref h), (1, .int x1)] [] (fun u => u = (mwS cB cI cJ cZ h a s'))) (s : RS) (x1 : Int32) (hB : r_fillsChances_6 k6 s x1 = some s') : BlkV l yX11_fillsChances wsX11_fillsChances ({ frames := 4, cells := 0, slots := 0, locals := 91 }) cX11_fillsChances 2 none (dC, dI) (tysA cB cI cJ cZ cS) as 6 (mwS cB cI cJ cZ h a s) [(0, .ref h), (1, .int x1)] [] (fun u => u = (mwS cB cI cJ cZ h a s')) := by
  intro p e s0 m below meth c A E H locs ls hP hD hS hl
  obtain ⟨C, hr, hlocks, hA, hK, hN⟩ := id E
  obtain ⟨hx, hb, hml, hown, hts⟩ := id C
  unfold r_fillsChances_6 at hB
  refine lv_iload_n hx hb dX11_fillsChances_6 rfl (lv_at hl 1 rfl) ?_
  refine lv_aload_n hx hb dX11_fillsChances_7 rfl (lv_at hl 0 rfl) ?_
  obtain ⟨q_, s1, hc, hB⟩ := bindI_inv hB
  refine q_goiF (va_runV (As := []) (rest := [.int x1]) C (cr_guesses hc _) (cwV 0 hts gX11_fillsChances_X11_guesses rfl rfl rfl (by decide +kernel) ⟨Nat.le_of_ble_eq_true rfl, Nat.le_of_ble_eq_true rfl⟩) (q_preV hK hP (ci := 11) (q0 := 0) rfl rfl rfl (q_preF hN hK hP hD)) rfl rfl hl.1 rfl (lv_room (Nat.le_of_ble_eq_true rfl)) dX11_fillsChances_8 ⟨Nat.le_of_ble_eq_true rfl, Nat.le_of_ble_eq_true rfl⟩) hD hS hA (fun r2 w1 H locs hw hP hD hS => ?_)
  obtain ⟨hq_, hw⟩ := hw; subst hw; subst hq_
  refine lv_icmp_ge (tgt := 31) hx hb dX11_fillsChances_11 (by decide) (fun c3 => ?_) (fun c3 => ?_)
  · have hB := if_p hB c3
    exact q_vret C hr hlocks hK hP hD hS (Nat.le_of_ble_eq_true rfl) (Nat.le_of_ble_eq_true rfl) dX11_fillsChances_31 (by cases hB; rfl)
  · have hB := if_n hB c3
    refine lv_aload_n hx hb dX11_fillsChances_14 rfl (lv_at hl 0 rfl) ?_
    refine q_get (v := .ref (a 50)) C inX11_fillsChances_X11 hK hP 0 rfl rfl 50 (by decide) rfl LX11_fillsChances_113 rfl dX11_fillsChances_15 ?_
    refine lv_iload_n hx hb dX11_fillsChances_18 rfl (lv_at hl 1 rfl) ?_
    refine lv_aload_n hx hb dX11_fillsChances_19 rfl (lv_at hl 0 rfl) ?_
    refine lv_iload_n hx hb dX11_fillsChances_20 rfl (lv_at hl 1 rfl) ?_
    obtain ⟨q_, s4, hc, hB⟩ := bindI_inv hB
    refine q_goiF (va_runV (As := [.int x1]) (rest := [.int x1, .ref (a 50)]) C (cr_chanceOf hc _) (cwV 1 hts gX11_fillsChances_X11_chanceOf rfl rfl rfl (by decide +kernel) ⟨Nat.le_of_ble_eq_true rfl, Nat.le_of_ble_eq_true rfl⟩) (q_preV hK hP (ci := 11) (q0 := 0) rfl rfl rfl (q_preF hN hK hP hD)) rfl rfl hl.1 rfl (lv_room (Nat.le_of_ble_eq_true rfl)) dX11_fillsChances_21 ⟨Nat.le_of_ble_eq_true rfl, Nat.le_of_ble_eq_true rfl⟩) hD hS hA (fun r5 w1 H locs hw hP hD hS => ?_)
    obtain ⟨hq_, hw⟩ := hw; subst hw; subst hq_
    obtain ⟨g6, hB⟩ := guard_inv hB
    obtain ⟨s7, hs8, hB⟩ := letS_inv hB
    refine q_iast (f2 := (upd (s4.f 50) (Int32.toNatClampNeg x1) r5)) (w2 := (mwS cB cI cJ cZ h a s7)) C hK hP hD hS 32 1 rfl rfl (vpb_in g6) dX11_fillsChances_24 rfl (mwS_f50 hs8) (fun H locs hP hD hS => ?_)
    refine lv_iinc (v := (x1 + 1)) (lv' := [(1, .int (x1 + 1)), (0, .ref h)]) hx hb dX11_fillsChances_25 hl (k := 1) rfl (rfl) (by decide) rfl (fun ls hl => ?_)
    refine lv_goto (tgt := 6) hx hb dX11_fillsChances_28 (by decide) ?_
    exact hk6 _ _ hB p e s0 m below meth c A E H locs ls hP hD hS (lv_sub hl [1, 0] rfl)
theorem br_fillsChances_6L {l : Launch} {dC : Nat → ClassId} {dI : Nat → Nat → Nat} {cB cI cJ cZ cS : ClassId} {h : Nat} {a : Nat → Nat} {as : List Value} {s' : RS} : ∀ (n : Nat) (s : RS) (x1 : Int32), r_fillsChances_6L n s x1 = some s' → BlkV l yX11_fillsChances wsX11_fillsChances ({ frames := 4, cells := 0, slots := 0, locals := 91 }) cX11_fillsChances 2 none (dC, dI) (tysA cB cI cJ cZ cS) as 6 (mwS cB cI cJ cZ h a s) [(0, .ref h), (1, .int x1)] [] (fun u => u = (mwS cB cI cJ cZ h a s')) := by
  intro n
  induction n with
  | zero => intro s x1 hB; exact none_ne hB
  | succ n ih => intro s x1 hB; exact br_fillsChances_6 ih _ _ hB
set_option maxHeartbeats 4000000 in
set_option maxRecDepth 100000 in
theorem br_fillsChances {l : Launch} {dC : Nat → ClassId} {dI : Nat → Nat → Nat} {cB cI cJ cZ cS : ClassId} {h : Nat} {a : Nat → Nat} {as : List Value} {s' : RS} (s : RS) (hB : r_fillsChances s = some s') : BlkV l yX11_fillsChances wsX11_fillsChances ({ frames := 4, cells := 0, slots := 0, locals := 91 }) cX11_fillsChances 2 none (dC, dI) (tysA cB cI cJ cZ cS) as 0 (mwS cB cI cJ cZ h a s) [(0, .ref h)] [] (fun u => u = (mwS cB cI cJ cZ h a s')) := by
  intro p e s0 m below meth c A E H locs ls hP hD hS hl
  obtain ⟨C, hr, hlocks, hA, hK, hN⟩ := id E
  obtain ⟨hx, hb, hml, hown, hts⟩ := id C
  unfold r_fillsChances at hB
  refine lv_aload_n hx hb dX11_fillsChances_0 rfl (lv_at hl 0 rfl) ?_
  obtain ⟨s1, hc, hB⟩ := bindP_inv hB
  refine q_govF (va_runV (As := []) (rest := []) C (cr_copies hc _) (cwV 0 hts gX11_fillsChances_X11_copies rfl rfl rfl (by decide +kernel) ⟨Nat.le_of_ble_eq_true rfl, Nat.le_of_ble_eq_true rfl⟩) (q_preV hK hP (ci := 11) (q0 := 0) rfl rfl rfl (q_preF hN hK hP hD)) rfl rfl hl.1 rfl (lv_room (Nat.le_of_ble_eq_true rfl)) dX11_fillsChances_1 ⟨Nat.le_of_ble_eq_true rfl, Nat.le_of_ble_eq_true rfl⟩) hD hS hA (fun w1 H locs hw hP hD hS => ?_)
  subst hw
  refine lv_iconst (v := 0) hx hb dX11_fillsChances_4 (by decide) ?_
  refine lv_istore_n (lv' := [(1, .int 0), (0, .ref h)]) hx hb dX11_fillsChances_5 rfl hl (by decide) rfl (fun ls hl => ?_)
  exact br_fillsChances_6L fu _ _ hB p e s0 m below meth c A E H locs ls hP hD hS (lv_sub hl [1, 0] rfl)
theorem cr_fillsChances {l : Launch} {dC : Nat → ClassId} {dI : Nat → Nat → Nat} {cB cI cJ cZ cS : ClassId} {h : Nat} {a : Nat → Nat} {s' : RS} {s : RS} (hB : r_fillsChances s = some s') : CV l yX11_fillsChances wsX11_fillsChances ({ frames := 4, cells := 0, slots := 0, locals := 91 }) (dC, dI) (tysA cB cI cJ cZ cS) (mwS cB cI cJ cZ h a s) [.ref h] (fun u => u = (mwS cB cI cJ cZ h a s')) :=
  CV_of (cc := cX11_fillsChances) (maxL := 2) (ret := none) (by decide) rfl (Nat.le_of_ble_eq_true rfl) (br_fillsChances _ hB)
theorem LX11_isAhead_113 : Cond.fieldLink RX11 113 "GuessFerryModel" "chanceBy" "[I" ∈ wsX11_isAhead := (List.mem_cons_of_mem _ (List.mem_append_left _ (List.mem_of_getElem? (i := 0) rfl)))
theorem inX11_isAhead_X11 : ∀ w ∈ u_ws RX11 TX11 58, w ∈ wsX11_isAhead := fun _ h => List.mem_cons_of_mem _ (List.mem_append_right _ h)
set_option maxHeartbeats 4000000 in
set_option maxRecDepth 100000 in
theorem br_isAhead {l : Launch} {dC : Nat → ClassId} {dI : Nat → Nat → Nat} {cB cI cJ cZ cS : ClassId} {h : Nat} {a : Nat → Nat} {as : List Value} {r : Int32} {s' : RS} (s : RS) (x1 : Int32) (x2 : Int32) (hB : r_isAhead s x1 x2 = some (r, s')) : BlkI l yX11_isAhead wsX11_isAhead ({ frames := 0, cells := 0, slots := 0, locals := 0 }) cX11_isAhead 3 (some .boolean) (dC, dI) (tysA cB cI cJ cZ cS) as 0 (mwS cB cI cJ cZ h a s) [(0, .ref h), (1, .int x1), (2, .int x2)] [] (fun x u => x = r ∧ u = (mwS cB cI cJ cZ h a s')) := by
  intro p e s0 m below meth c A E H locs ls hP hD hS hl
  obtain ⟨C, hr, hlocks, hA, hK, hN⟩ := id E
  obtain ⟨hx, hb, hml, hown, hts⟩ := id C
  unfold r_isAhead at hB
  refine lv_aload_n hx hb dX11_isAhead_0 rfl (lv_at hl 0 rfl) ?_
  refine q_get (v := .ref (a 50)) C inX11_isAhead_X11 hK hP 0 rfl rfl 50 (by decide) rfl LX11_isAhead_113 rfl dX11_isAhead_1 ?_
  refine lv_iload_n hx hb dX11_isAhead_4 rfl (lv_at hl 1 rfl) ?_
  obtain ⟨g1, hB⟩ := guard_inv hB
  refine q_iald (x := (s.f 50 (Int32.toNatClampNeg x1))) C hK hP 32 1 rfl rfl (vpb_in g1) dX11_isAhead_5 rfl ?_
  refine lv_aload_n hx hb dX11_isAhead_6 rfl (lv_at hl 0 rfl) ?_
  refine q_get (v := .ref (a 50)) C inX11_isAhead_X11 hK hP 0 rfl rfl 50 (by decide) rfl LX11_isAhead_113 rfl dX11_isAhead_7 ?_
  refine lv_iload_n hx hb dX11_isAhead_10 rfl (lv_at hl 2 rfl) ?_
  obtain ⟨g2, hB⟩ := guard_inv hB
  refine q_iald (x := (s.f 50 (Int32.toNatClampNeg x2))) C hK hP 32 1 rfl rfl (vpb_in g2) dX11_isAhead_11 rfl ?_
  refine lv_icmp_gt (tgt := 35) hx hb dX11_isAhead_12 (by decide) (fun c3 => ?_) (fun c3 => ?_)
  · have hB := if_p hB c3
    refine lv_iconst (v := 1) hx hb dX11_isAhead_35 (by decide) ?_
    refine lv_goto (tgt := 40) hx hb dX11_isAhead_36 (by decide) ?_
    exact q_zret C hr hlocks (Or.inr rfl) hK hP hD hS (Nat.le_of_ble_eq_true rfl) (Nat.le_of_ble_eq_true rfl) dX11_isAhead_40 (by cases hB; exact ⟨rfl, rfl⟩)
  · have hB := if_n hB c3
    refine lv_aload_n hx hb dX11_isAhead_15 rfl (lv_at hl 0 rfl) ?_
    refine q_get (v := .ref (a 50)) C inX11_isAhead_X11 hK hP 0 rfl rfl 50 (by decide) rfl LX11_isAhead_113 rfl dX11_isAhead_16 ?_
    refine lv_iload_n hx hb dX11_isAhead_19 rfl (lv_at hl 1 rfl) ?_
    obtain ⟨g4, hB⟩ := guard_inv hB
    refine q_iald (x := (s.f 50 (Int32.toNatClampNeg x1))) C hK hP 32 1 rfl rfl (vpb_in g4) dX11_isAhead_20 rfl ?_
    refine lv_aload_n hx hb dX11_isAhead_21 rfl (lv_at hl 0 rfl) ?_
    refine q_get (v := .ref (a 50)) C inX11_isAhead_X11 hK hP 0 rfl rfl 50 (by decide) rfl LX11_isAhead_113 rfl dX11_isAhead_22 ?_
    refine lv_iload_n hx hb dX11_isAhead_25 rfl (lv_at hl 2 rfl) ?_
    obtain ⟨g5, hB⟩ := guard_inv hB
    refine q_iald (x := (s.f 50 (Int32.toNatClampNeg x2))) C hK hP 32 1 rfl rfl (vpb_in g5) dX11_isAhead_26 rfl ?_
    refine lv_icmp_ne (tgt := 39) hx hb dX11_isAhead_27 (by decide) (fun c6 => ?_) (fun c6 => ?_)
    · have hB := if_n hB c6
      refine lv_iconst (v := 0) hx hb dX11_isAhead_39 (by decide) ?_
      exact q_zret C hr hlocks (Or.inl rfl) hK hP hD hS (Nat.le_of_ble_eq_true rfl) (Nat.le_of_ble_eq_true rfl) dX11_isAhead_40 (by cases hB; exact ⟨rfl, rfl⟩)
    · have hB := if_p hB c6
      refine lv_iload_n hx hb dX11_isAhead_30 rfl (lv_at hl 1 rfl) ?_
      refine lv_iload_n hx hb dX11_isAhead_31 rfl (lv_at hl 2 rfl) ?_
      refine lv_icmp_ge (tgt := 39) hx hb dX11_isAhead_32 (by decide) (fun c7 => ?_) (fun c7 => ?_)
      · have hB := if_p hB c7
        refine lv_iconst (v := 0) hx hb dX11_isAhead_39 (by decide) ?_
        exact q_zret C hr hlocks (Or.inl rfl) hK hP hD hS (Nat.le_of_ble_eq_true rfl) (Nat.le_of_ble_eq_true rfl) dX11_isAhead_40 (by cases hB; exact ⟨rfl, rfl⟩)
      · have hB := if_n hB c7
        refine lv_iconst (v := 1) hx hb dX11_isAhead_35 (by decide) ?_
        refine lv_goto (tgt := 40) hx hb dX11_isAhead_36 (by decide) ?_
        exact q_zret C hr hlocks (Or.inr rfl) hK hP hD hS (Nat.le_of_ble_eq_true rfl) (Nat.le_of_ble_eq_true rfl) dX11_isAhead_40 (by cases hB; exact ⟨rfl, rfl⟩)
theorem cr_isAhead {l : Launch} {dC : Nat → ClassId} {dI : Nat → Nat → Nat} {cB cI cJ cZ cS : ClassId} {h : Nat} {a : Nat → Nat} {r : Int32} {s' : RS} {s : RS} {x1 : Int32} {x2 : Int32} (hB : r_isAhead s x1 x2 = some (r, s')) : CI l yX11_isAhead wsX11_isAhead ({ frames := 0, cells := 0, slots := 0, locals := 0 }) (dC, dI) (tysA cB cI cJ cZ cS) (mwS cB cI cJ cZ h a s) [.ref h, .int x1, .int x2] (fun x u => x = r ∧ u = (mwS cB cI cJ cZ h a s')) :=
  CI_of (cc := cX11_isAhead) (maxL := 3) (ret := (some .boolean)) (by decide) rfl (Nat.le_of_ble_eq_true rfl) (br_isAhead _ _ _ hB)
set_option maxHeartbeats 4000000 in
set_option maxRecDepth 100000 in
theorem br_rank_49 {l : Launch} {dC : Nat → ClassId} {dI : Nat → Nat → Nat} {cB cI cJ cZ cS : ClassId} {h : Nat} {a : Nat → Nat} {as : List Value} {r : Int32} {s' : RS} {k29 : RS → Int32 → Int32 → Int32 → Option (Int32 × RS)} (hk29 : ∀ (s : RS) (x1 : Int32) (x2 : Int32) (x3 : Int32), k29 s x1 x2 x3 = some (r, s') → BlkI l yX11_rank wsX11_rank ({ frames := 5, cells := 0, slots := 0, locals := 112 }) cX11_rank 4 (some .int) (dC, dI) (tysA cB cI cJ cZ cS) as 29 (mwS cB cI cJ cZ h a s) [(0, .ref h), (1, .int x1), (2, .int x2), (3, .int x3)] [] (fun x u => x = r ∧ u = (mwS cB cI cJ cZ h a s'))) (s : RS) (x1 : Int32) (x2 : Int32) (x3 : Int32) (hB : r_rank_49 k29 s x1 x2 x3 = some (r, s')) : BlkI l yX11_rank wsX11_rank ({ frames := 5, cells := 0, slots := 0, locals := 112 }) cX11_rank 4 (some .int) (dC, dI) (tysA cB cI cJ cZ cS) as 49 (mwS cB cI cJ cZ h a s) [(0, .ref h), (1, .int x1), (2, .int x2), (3, .int x3)] [] (fun x u => x = r ∧ u = (mwS cB cI cJ cZ h a s')) := by
  intro p e s0 m below meth c A E H locs ls hP hD hS hl
  obtain ⟨C, hr, hlocks, hA, hK, hN⟩ := id E
  obtain ⟨hx, hb, hml, hown, hts⟩ := id C
  unfold r_rank_49 at hB
  refine lv_iinc (v := (x3 + 1)) (lv' := [(3, .int (x3 + 1)), (0, .ref h), (1, .int x1), (2, .int x2)]) hx hb dX11_rank_49 hl (k := 3) rfl (rfl) (by decide) rfl (fun ls hl => ?_)
  refine lv_goto (tgt := 29) hx hb dX11_rank_52 (by decide) ?_
  exact hk29 _ _ _ _ hB p e s0 m below meth c A E H locs ls hP hD hS (lv_sub hl [1, 2, 3, 0] rfl)
set_option maxHeartbeats 4000000 in
set_option maxRecDepth 100000 in
theorem br_rank_29 {l : Launch} {dC : Nat → ClassId} {dI : Nat → Nat → Nat} {cB cI cJ cZ cS : ClassId} {h : Nat} {a : Nat → Nat} {as : List Value} {r : Int32} {s' : RS} {k29 : RS → Int32 → Int32 → Int32 → Option (Int32 × RS)} (hk29 : ∀ (s : RS) (x1 : Int32) (x2 : Int32) (x3 : Int32), k29 s x1 x2 x3 = some (r, s') → BlkI l yX11_rank wsX11_rank ({ frames := 5, cells := 0, slots := 0, locals := 112 }) cX11_rank 4 (some .int) (dC, dI) (tysA cB cI cJ cZ cS) as 29 (mwS cB cI cJ cZ h a s) [(0, .ref h), (1, .int x1), (2, .int x2), (3, .int x3)] [] (fun x u => x = r ∧ u = (mwS cB cI cJ cZ h a s'))) (s : RS) (x1 : Int32) (x2 : Int32) (x3 : Int32) (hB : r_rank_29 k29 s x1 x2 x3 = some (r, s')) : BlkI l yX11_rank wsX11_rank ({ frames := 5, cells := 0, slots := 0, locals := 112 }) cX11_rank 4 (some .int) (dC, dI) (tysA cB cI cJ cZ cS) as 29 (mwS cB cI cJ cZ h a s) [(0, .ref h), (1, .int x1), (2, .int x2), (3, .int x3)] [] (fun x u => x = r ∧ u = (mwS cB cI cJ cZ h a s')) := by
  intro p e s0 m below meth c A E H locs ls hP hD hS hl
  obtain ⟨C, hr, hlocks, hA, hK, hN⟩ := id E
  obtain ⟨hx, hb, hml, hown, hts⟩ := id C
  unfold r_rank_29 at hB
  refine lv_iload_n hx hb dX11_rank_29 rfl (lv_at hl 3 rfl) ?_
  refine lv_aload_n hx hb dX11_rank_30 rfl (lv_at hl 0 rfl) ?_
  obtain ⟨q_, s1, hc, hB⟩ := bindI_inv hB
  refine q_goiF (va_runV (As := []) (rest := [.int x3]) C (cr_guesses hc _) (cwV 0 hts gX11_rank_X11_guesses rfl rfl rfl (by decide +kernel) ⟨Nat.le_of_ble_eq_true rfl, Nat.le_of_ble_eq_true rfl⟩) (q_preV hK hP (ci := 11) (q0 := 0) rfl rfl rfl (q_preF hN hK hP hD)) rfl rfl hl.1 rfl (lv_room (Nat.le_of_ble_eq_true rfl)) dX11_rank_31 ⟨Nat.le_of_ble_eq_true rfl, Nat.le_of_ble_eq_true rfl⟩) hD hS hA (fun r2 w1 H locs hw hP hD hS => ?_)
  obtain ⟨hq_, hw⟩ := hw; subst hw; subst hq_
  refine lv_icmp_ge (tgt := 55) hx hb dX11_rank_34 (by decide) (fun c3 => ?_) (fun c3 => ?_)
  · have hB := if_p hB c3
    refine lv_iload_n hx hb dX11_rank_55 rfl (lv_at hl 2 rfl) ?_
    exact q_iret C hr hlocks hK hP hD hS (Nat.le_of_ble_eq_true rfl) (Nat.le_of_ble_eq_true rfl) dX11_rank_56 (by cases hB; exact ⟨rfl, rfl⟩)
  · have hB := if_n hB c3
    refine lv_aload_n hx hb dX11_rank_37 rfl (lv_at hl 0 rfl) ?_
    refine lv_iload_n hx hb dX11_rank_38 rfl (lv_at hl 3 rfl) ?_
    refine lv_iload_n hx hb dX11_rank_39 rfl (lv_at hl 1 rfl) ?_
    obtain ⟨q_, s4, hc, hB⟩ := bindI_inv hB
    refine q_goiF (va_runV (As := [.int x3, .int x1]) (rest := []) C (cr_isAhead hc _) (cwV 2 hts gX11_rank_X11_isAhead rfl rfl rfl (by decide +kernel) ⟨Nat.le_of_ble_eq_true rfl, Nat.le_of_ble_eq_true rfl⟩) (q_preV hK hP (ci := 11) (q0 := 0) rfl rfl rfl (q_preF hN hK hP hD)) rfl rfl hl.1 rfl (lv_room (Nat.le_of_ble_eq_true rfl)) dX11_rank_40 ⟨Nat.le_of_ble_eq_true rfl, Nat.le_of_ble_eq_true rfl⟩) hD hS hA (fun r5 w1 H locs hw hP hD hS => ?_)
    obtain ⟨hq_, hw⟩ := hw; subst hw; subst hq_
    refine lv_if_eq (tgt := 49) hx hb dX11_rank_43 (by decide) (fun c6 => ?_) (fun c6 => ?_)
    · have hB := if_p hB c6
      exact br_rank_49 (hk29) _ _ _ _ hB p e s0 m below meth c A E H locs ls hP hD hS (lv_sub hl [0, 1, 2, 3] rfl)
    · have hB := if_n hB c6
      refine lv_iinc (v := (x2 + 1)) (lv' := [(2, .int (x2 + 1)), (0, .ref h), (1, .int x1), (3, .int x3)]) hx hb dX11_rank_46 hl (k := 2) rfl (rfl) (by decide) rfl (fun ls hl => ?_)
      exact br_rank_49 (hk29) _ _ _ _ hB p e s0 m below meth c A E H locs ls hP hD hS (lv_sub hl [1, 2, 0, 3] rfl)
theorem br_rank_29L {l : Launch} {dC : Nat → ClassId} {dI : Nat → Nat → Nat} {cB cI cJ cZ cS : ClassId} {h : Nat} {a : Nat → Nat} {as : List Value} {r : Int32} {s' : RS} : ∀ (n : Nat) (s : RS) (x1 : Int32) (x2 : Int32) (x3 : Int32), r_rank_29L n s x1 x2 x3 = some (r, s') → BlkI l yX11_rank wsX11_rank ({ frames := 5, cells := 0, slots := 0, locals := 112 }) cX11_rank 4 (some .int) (dC, dI) (tysA cB cI cJ cZ cS) as 29 (mwS cB cI cJ cZ h a s) [(0, .ref h), (1, .int x1), (2, .int x2), (3, .int x3)] [] (fun x u => x = r ∧ u = (mwS cB cI cJ cZ h a s')) := by
  intro n
  induction n with
  | zero => intro s x1 x2 x3 hB; exact none_ne hB
  | succ n ih => intro s x1 x2 x3 hB; exact br_rank_29 ih _ _ _ _ hB
set_option maxHeartbeats 4000000 in
set_option maxRecDepth 100000 in
theorem br_rank {l : Launch} {dC : Nat → ClassId} {dI : Nat → Nat → Nat} {cB cI cJ cZ cS : ClassId} {h : Nat} {a : Nat → Nat} {as : List Value} {r : Int32} {s' : RS} (s : RS) (x1 : Int32) (hB : r_rank s x1 = some (r, s')) : BlkI l yX11_rank wsX11_rank ({ frames := 5, cells := 0, slots := 0, locals := 112 }) cX11_rank 4 (some .int) (dC, dI) (tysA cB cI cJ cZ cS) as 0 (mwS cB cI cJ cZ h a s) [(0, .ref h), (1, .int x1)] [] (fun x u => x = r ∧ u = (mwS cB cI cJ cZ h a s')) := by
  intro p e s0 m below meth c A E H locs ls hP hD hS hl
  obtain ⟨C, hr, hlocks, hA, hK, hN⟩ := id E
  obtain ⟨hx, hb, hml, hown, hts⟩ := id C
  unfold r_rank at hB
  refine lv_aload_n hx hb dX11_rank_0 rfl (lv_at hl 0 rfl) ?_
  refine lv_iload_n hx hb dX11_rank_1 rfl (lv_at hl 1 rfl) ?_
  obtain ⟨q_, s1, hc, hB⟩ := bindI_inv hB
  refine q_goiF (va_runV (As := [.int x1]) (rest := []) C (cr_isGuess hc _) (cwV 1 hts gX11_rank_X11_isGuess rfl rfl rfl (by decide +kernel) ⟨Nat.le_of_ble_eq_true rfl, Nat.le_of_ble_eq_true rfl⟩) (q_preV hK hP (ci := 11) (q0 := 0) rfl rfl rfl (q_preF hN hK hP hD)) rfl rfl hl.1 rfl (lv_room (Nat.le_of_ble_eq_true rfl)) dX11_rank_2 ⟨Nat.le_of_ble_eq_true rfl, Nat.le_of_ble_eq_true rfl⟩) hD hS hA (fun r2 w1 H locs hw hP hD hS => ?_)
  obtain ⟨hq_, hw⟩ := hw; subst hw; subst hq_
  refine lv_if_ne (tgt := 10) hx hb dX11_rank_5 (by decide) (fun c3 => ?_) (fun c3 => ?_)
  · have hB := if_n hB c3
    refine lv_aload_n hx hb dX11_rank_10 rfl (lv_at hl 0 rfl) ?_
    obtain ⟨s4, hc, hB⟩ := bindP_inv hB
    refine q_govF (va_runV (As := []) (rest := []) C (cr_fillsChances hc _) (cwV 0 hts gX11_rank_X11_fillsChances rfl rfl rfl (by decide +kernel) ⟨Nat.le_of_ble_eq_true rfl, Nat.le_of_ble_eq_true rfl⟩) (q_preV hK hP (ci := 11) (q0 := 0) rfl rfl rfl (q_preF hN hK hP hD)) rfl rfl hl.1 rfl (lv_room (Nat.le_of_ble_eq_true rfl)) dX11_rank_11 ⟨Nat.le_of_ble_eq_true rfl, Nat.le_of_ble_eq_true rfl⟩) hD hS hA (fun w1 H locs hw hP hD hS => ?_)
    subst hw
    refine lv_aload_n hx hb dX11_rank_14 rfl (lv_at hl 0 rfl) ?_
    refine lv_iload_n hx hb dX11_rank_15 rfl (lv_at hl 1 rfl) ?_
    obtain ⟨q_, s5, hc, hB⟩ := bindI_inv hB
    refine q_goiF (va_runV (As := [.int x1]) (rest := []) C (cr_isCase hc _) (cwV 1 hts gX11_rank_X11_isCase rfl rfl rfl (by decide +kernel) ⟨Nat.le_of_ble_eq_true rfl, Nat.le_of_ble_eq_true rfl⟩) (q_preV hK hP (ci := 11) (q0 := 0) rfl rfl rfl (q_preF hN hK hP hD)) rfl rfl hl.1 rfl (lv_room (Nat.le_of_ble_eq_true rfl)) dX11_rank_16 ⟨Nat.le_of_ble_eq_true rfl, Nat.le_of_ble_eq_true rfl⟩) hD hS hA (fun r6 w1 H locs hw hP hD hS => ?_)
    obtain ⟨hq_, hw⟩ := hw; subst hw; subst hq_
    refine lv_if_ne (tgt := 25) hx hb dX11_rank_19 (by decide) (fun c7 => ?_) (fun c7 => ?_)
    · have hB := if_n hB c7
      refine lv_iconst (v := 0) hx hb dX11_rank_25 (by decide) ?_
      refine lv_istore_n (lv' := [(2, .int 0), (0, .ref h), (1, .int x1)]) hx hb dX11_rank_26 rfl hl (by decide) rfl (fun ls hl => ?_)
      refine lv_iconst (v := 0) hx hb dX11_rank_27 (by decide) ?_
      refine lv_istore_n (lv' := [(3, .int 0), (2, .int 0), (0, .ref h), (1, .int x1)]) hx hb dX11_rank_28 rfl hl (by decide) rfl (fun ls hl => ?_)
      exact br_rank_29L fu _ _ _ _ hB p e s0 m below meth c A E H locs ls hP hD hS (lv_sub hl [2, 3, 1, 0] rfl)
    · have hB := if_p hB c7
      refine lv_bipush (v := (-2)) hx hb dX11_rank_22 (by decide) ?_
      exact q_iret C hr hlocks hK hP hD hS (Nat.le_of_ble_eq_true rfl) (Nat.le_of_ble_eq_true rfl) dX11_rank_24 (by cases hB; exact ⟨rfl, rfl⟩)
  · have hB := if_p hB c3
    refine lv_iconst (v := (-1)) hx hb dX11_rank_8 (by decide) ?_
    exact q_iret C hr hlocks hK hP hD hS (Nat.le_of_ble_eq_true rfl) (Nat.le_of_ble_eq_true rfl) dX11_rank_9 (by cases hB; exact ⟨rfl, rfl⟩)
theorem cr_rank {l : Launch} {dC : Nat → ClassId} {dI : Nat → Nat → Nat} {cB cI cJ cZ cS : ClassId} {h : Nat} {a : Nat → Nat} {r : Int32} {s' : RS} {s : RS} {x1 : Int32} (hB : r_rank s x1 = some (r, s')) : CI l yX11_rank wsX11_rank ({ frames := 5, cells := 0, slots := 0, locals := 112 }) (dC, dI) (tysA cB cI cJ cZ cS) (mwS cB cI cJ cZ h a s) [.ref h, .int x1] (fun x u => x = r ∧ u = (mwS cB cI cJ cZ h a s')) :=
  CI_of (cc := cX11_rank) (maxL := 4) (ret := (some .int)) (by decide) rfl (Nat.le_of_ble_eq_true rfl) (br_rank _ _ hB)
theorem LX11_ranked_113 : Cond.fieldLink RX11 113 "GuessFerryModel" "chanceBy" "[I" ∈ wsX11_ranked := (List.mem_cons_of_mem _ (List.mem_append_left _ (List.mem_append_left _ (List.mem_of_getElem? (i := 0) rfl))))
theorem inX11_ranked_X11 : ∀ w ∈ u_ws RX11 TX11 58, w ∈ wsX11_ranked := fun w h => (List.mem_cons_of_mem _ (List.mem_append_right _ h))
set_option maxHeartbeats 4000000 in
set_option maxRecDepth 100000 in
theorem br_ranked_84 {l : Launch} {dC : Nat → ClassId} {dI : Nat → Nat → Nat} {cB cI cJ cZ cS : ClassId} {h : Nat} {a : Nat → Nat} {as : List Value} {r : Int32} {s' : RS} {k20 : RS → Int32 → Int32 → Int32 → Option (Int32 × RS)} {k31 : RS → Int32 → Int32 → Int32 → Int32 → Int32 → Option (Int32 × RS)} (hk20 : ∀ (s : RS) (x1 : Int32) (x2 : Int32) (x3 : Int32), k20 s x1 x2 x3 = some (r, s') → BlkI l yX11_ranked wsX11_ranked ({ frames := 5, cells := 0, slots := 0, locals := 112 }) cX11_ranked 6 (some .int) (dC, dI) (tysA cB cI cJ cZ cS) as 20 (mwS cB cI cJ cZ h a s) [(0, .ref h), (1, .int x1), (2, .int x2), (3, .int x3)] [] (fun x u => x = r ∧ u = (mwS cB cI cJ cZ h a s'))) (hk31 : ∀ (s : RS) (x1 : Int32) (x2 : Int32) (x3 : Int32) (x4 : Int32) (x5 : Int32), k31 s x1 x2 x3 x4 x5 = some (r, s') → BlkI l yX11_ranked wsX11_ranked ({ frames := 5, cells := 0, slots := 0, locals := 112 }) cX11_ranked 6 (some .int) (dC, dI) (tysA cB cI cJ cZ cS) as 31 (mwS cB cI cJ cZ h a s) [(0, .ref h), (1, .int x1), (2, .int x2), (3, .int x3), (4, .int x4), (5, .int x5)] [] (fun x u => x = r ∧ u = (mwS cB cI cJ cZ h a s'))) (s : RS) (x1 : Int32) (x2 : Int32) (x3 : Int32) (x4 : Int32) (x5 : Int32) (hB : r_ranked_84 k20 k31 s x1 x2 x3 x4 x5 = some (r, s')) : BlkI l yX11_ranked wsX11_ranked ({ frames := 5, cells := 0, slots := 0, locals := 112 }) cX11_ranked 6 (some .int) (dC, dI) (tysA cB cI cJ cZ cS) as 84 (mwS cB cI cJ cZ h a s) [(0, .ref h), (1, .int x1), (2, .int x2), (3, .int x3), (4, .int x4), (5, .int x5)] [] (fun x u => x = r ∧ u = (mwS cB cI cJ cZ h a s')) := by
  intro p e s0 m below meth c A E H locs ls hP hD hS hl
  obtain ⟨C, hr, hlocks, hA, hK, hN⟩ := id E
  obtain ⟨hx, hb, hml, hown, hts⟩ := id C
  unfold r_ranked_84 at hB
  refine lv_iinc (v := (x5 + 1)) (lv' := [(5, .int (x5 + 1)), (0, .ref h), (1, .int x1), (2, .int x2), (3, .int x3), (4, .int x4)]) hx hb dX11_ranked_84 hl (k := 5) rfl (rfl) (by decide) rfl (fun ls hl => ?_)
  refine lv_goto (tgt := 31) hx hb dX11_ranked_87 (by decide) ?_
  exact hk31 _ _ _ _ _ _ hB p e s0 m below meth c A E H locs ls hP hD hS (lv_sub hl [1, 2, 3, 4, 5, 0] rfl)
set_option maxHeartbeats 4000000 in
set_option maxRecDepth 100000 in
theorem br_ranked_80 {l : Launch} {dC : Nat → ClassId} {dI : Nat → Nat → Nat} {cB cI cJ cZ cS : ClassId} {h : Nat} {a : Nat → Nat} {as : List Value} {r : Int32} {s' : RS} {k20 : RS → Int32 → Int32 → Int32 → Option (Int32 × RS)} {k31 : RS → Int32 → Int32 → Int32 → Int32 → Int32 → Option (Int32 × RS)} (hk20 : ∀ (s : RS) (x1 : Int32) (x2 : Int32) (x3 : Int32), k20 s x1 x2 x3 = some (r, s') → BlkI l yX11_ranked wsX11_ranked ({ frames := 5, cells := 0, slots := 0, locals := 112 }) cX11_ranked 6 (some .int) (dC, dI) (tysA cB cI cJ cZ cS) as 20 (mwS cB cI cJ cZ h a s) [(0, .ref h), (1, .int x1), (2, .int x2), (3, .int x3)] [] (fun x u => x = r ∧ u = (mwS cB cI cJ cZ h a s'))) (hk31 : ∀ (s : RS) (x1 : Int32) (x2 : Int32) (x3 : Int32) (x4 : Int32) (x5 : Int32), k31 s x1 x2 x3 x4 x5 = some (r, s') → BlkI l yX11_ranked wsX11_ranked ({ frames := 5, cells := 0, slots := 0, locals := 112 }) cX11_ranked 6 (some .int) (dC, dI) (tysA cB cI cJ cZ cS) as 31 (mwS cB cI cJ cZ h a s) [(0, .ref h), (1, .int x1), (2, .int x2), (3, .int x3), (4, .int x4), (5, .int x5)] [] (fun x u => x = r ∧ u = (mwS cB cI cJ cZ h a s'))) (s : RS) (x1 : Int32) (x2 : Int32) (x3 : Int32) (x5 : Int32) (hB : r_ranked_80 k20 k31 s x1 x2 x3 x5 = some (r, s')) : BlkI l yX11_ranked wsX11_ranked ({ frames := 5, cells := 0, slots := 0, locals := 112 }) cX11_ranked 6 (some .int) (dC, dI) (tysA cB cI cJ cZ cS) as 80 (mwS cB cI cJ cZ h a s) [(0, .ref h), (1, .int x1), (2, .int x2), (3, .int x3), (5, .int x5)] [] (fun x u => x = r ∧ u = (mwS cB cI cJ cZ h a s')) := by
  intro p e s0 m below meth c A E H locs ls hP hD hS hl
  obtain ⟨C, hr, hlocks, hA, hK, hN⟩ := id E
  obtain ⟨hx, hb, hml, hown, hts⟩ := id C
  unfold r_ranked_80 at hB
  refine lv_iload hx hb dX11_ranked_80 (lv_at hl 4 rfl) ?_
  refine lv_istore (lv' := [(4, .int x5), (0, .ref h), (1, .int x1), (2, .int x2), (3, .int x3), (5, .int x5)]) hx hb dX11_ranked_82 hl (by decide) rfl (fun ls hl => ?_)
  exact br_ranked_84 (hk20) (hk31) _ _ _ _ _ _ hB p e s0 m below meth c A E H locs ls hP hD hS (lv_sub hl [1, 2, 3, 4, 0, 5] rfl)
set_option maxHeartbeats 4000000 in
set_option maxRecDepth 100000 in
theorem br_ranked_64 {l : Launch} {dC : Nat → ClassId} {dI : Nat → Nat → Nat} {cB cI cJ cZ cS : ClassId} {h : Nat} {a : Nat → Nat} {as : List Value} {r : Int32} {s' : RS} {k20 : RS → Int32 → Int32 → Int32 → Option (Int32 × RS)} {k31 : RS → Int32 → Int32 → Int32 → Int32 → Int32 → Option (Int32 × RS)} (hk20 : ∀ (s : RS) (x1 : Int32) (x2 : Int32) (x3 : Int32), k20 s x1 x2 x3 = some (r, s') → BlkI l yX11_ranked wsX11_ranked ({ frames := 5, cells := 0, slots := 0, locals := 112 }) cX11_ranked 6 (some .int) (dC, dI) (tysA cB cI cJ cZ cS) as 20 (mwS cB cI cJ cZ h a s) [(0, .ref h), (1, .int x1), (2, .int x2), (3, .int x3)] [] (fun x u => x = r ∧ u = (mwS cB cI cJ cZ h a s'))) (hk31 : ∀ (s : RS) (x1 : Int32) (x2 : Int32) (x3 : Int32) (x4 : Int32) (x5 : Int32), k31 s x1 x2 x3 x4 x5 = some (r, s') → BlkI l yX11_ranked wsX11_ranked ({ frames := 5, cells := 0, slots := 0, locals := 112 }) cX11_ranked 6 (some .int) (dC, dI) (tysA cB cI cJ cZ cS) as 31 (mwS cB cI cJ cZ h a s) [(0, .ref h), (1, .int x1), (2, .int x2), (3, .int x3), (4, .int x4), (5, .int x5)] [] (fun x u => x = r ∧ u = (mwS cB cI cJ cZ h a s'))) (s : RS) (x1 : Int32) (x2 : Int32) (x3 : Int32) (x4 : Int32) (x5 : Int32) (hB : r_ranked_64 k20 k31 s x1 x2 x3 x4 x5 = some (r, s')) : BlkI l yX11_ranked wsX11_ranked ({ frames := 5, cells := 0, slots := 0, locals := 112 }) cX11_ranked 6 (some .int) (dC, dI) (tysA cB cI cJ cZ cS) as 64 (mwS cB cI cJ cZ h a s) [(0, .ref h), (1, .int x1), (2, .int x2), (3, .int x3), (4, .int x4), (5, .int x5)] [] (fun x u => x = r ∧ u = (mwS cB cI cJ cZ h a s')) := by
  intro p e s0 m below meth c A E H locs ls hP hD hS hl
  obtain ⟨C, hr, hlocks, hA, hK, hN⟩ := id E
  obtain ⟨hx, hb, hml, hown, hts⟩ := id C
  unfold r_ranked_64 at hB
  refine lv_iload hx hb dX11_ranked_64 (lv_at hl 4 rfl) ?_
  refine lv_if_lt (tgt := 80) hx hb dX11_ranked_66 (by decide) (fun c1 => ?_) (fun c1 => ?_)
  · have hB := if_p hB c1
    exact br_ranked_80 (hk20) (hk31) _ _ _ _ _ hB p e s0 m below meth c A E H locs ls hP hD hS (lv_sub hl [0, 1, 2, 3, 5] rfl)
  · have hB := if_n hB c1
    refine lv_aload_n hx hb dX11_ranked_69 rfl (lv_at hl 0 rfl) ?_
    refine lv_iload hx hb dX11_ranked_70 (lv_at hl 5 rfl) ?_
    refine lv_iload hx hb dX11_ranked_72 (lv_at hl 4 rfl) ?_
    obtain ⟨q_, s2, hc, hB⟩ := bindI_inv hB
    refine q_goiF (va_runV (As := [.int x5, .int x4]) (rest := []) C (cr_isAhead hc _) (cwV 2 hts gX11_ranked_X11_isAhead rfl rfl rfl (by decide +kernel) ⟨Nat.le_of_ble_eq_true rfl, Nat.le_of_ble_eq_true rfl⟩) (q_preV hK hP (ci := 11) (q0 := 0) rfl rfl rfl (q_preF hN hK hP hD)) rfl rfl hl.1 rfl (lv_room (Nat.le_of_ble_eq_true rfl)) dX11_ranked_74 ⟨Nat.le_of_ble_eq_true rfl, Nat.le_of_ble_eq_true rfl⟩) hD hS hA (fun r3 w1 H locs hw hP hD hS => ?_)
    obtain ⟨hq_, hw⟩ := hw; subst hw; subst hq_
    refine lv_if_eq (tgt := 84) hx hb dX11_ranked_77 (by decide) (fun c4 => ?_) (fun c4 => ?_)
    · have hB := if_p hB c4
      exact br_ranked_84 (hk20) (hk31) _ _ _ _ _ _ hB p e s0 m below meth c A E H locs ls hP hD hS (lv_sub hl [0, 1, 2, 3, 4, 5] rfl)
    · have hB := if_n hB c4
      exact br_ranked_80 (hk20) (hk31) _ _ _ _ _ hB p e s0 m below meth c A E H locs ls hP hD hS (lv_sub hl [0, 1, 2, 3, 5] rfl)
set_option maxHeartbeats 4000000 in
set_option maxRecDepth 100000 in
theorem br_ranked_31 {l : Launch} {dC : Nat → ClassId} {dI : Nat → Nat → Nat} {cB cI cJ cZ cS : ClassId} {h : Nat} {a : Nat → Nat} {as : List Value} {r : Int32} {s' : RS} {k20 : RS → Int32 → Int32 → Int32 → Option (Int32 × RS)} {k31 : RS → Int32 → Int32 → Int32 → Int32 → Int32 → Option (Int32 × RS)} (hk20 : ∀ (s : RS) (x1 : Int32) (x2 : Int32) (x3 : Int32), k20 s x1 x2 x3 = some (r, s') → BlkI l yX11_ranked wsX11_ranked ({ frames := 5, cells := 0, slots := 0, locals := 112 }) cX11_ranked 6 (some .int) (dC, dI) (tysA cB cI cJ cZ cS) as 20 (mwS cB cI cJ cZ h a s) [(0, .ref h), (1, .int x1), (2, .int x2), (3, .int x3)] [] (fun x u => x = r ∧ u = (mwS cB cI cJ cZ h a s'))) (hk31 : ∀ (s : RS) (x1 : Int32) (x2 : Int32) (x3 : Int32) (x4 : Int32) (x5 : Int32), k31 s x1 x2 x3 x4 x5 = some (r, s') → BlkI l yX11_ranked wsX11_ranked ({ frames := 5, cells := 0, slots := 0, locals := 112 }) cX11_ranked 6 (some .int) (dC, dI) (tysA cB cI cJ cZ cS) as 31 (mwS cB cI cJ cZ h a s) [(0, .ref h), (1, .int x1), (2, .int x2), (3, .int x3), (4, .int x4), (5, .int x5)] [] (fun x u => x = r ∧ u = (mwS cB cI cJ cZ h a s'))) (s : RS) (x1 : Int32) (x2 : Int32) (x3 : Int32) (x4 : Int32) (x5 : Int32) (hB : r_ranked_31 k20 k31 s x1 x2 x3 x4 x5 = some (r, s')) : BlkI l yX11_ranked wsX11_ranked ({ frames := 5, cells := 0, slots := 0, locals := 112 }) cX11_ranked 6 (some .int) (dC, dI) (tysA cB cI cJ cZ cS) as 31 (mwS cB cI cJ cZ h a s) [(0, .ref h), (1, .int x1), (2, .int x2), (3, .int x3), (4, .int x4), (5, .int x5)] [] (fun x u => x = r ∧ u = (mwS cB cI cJ cZ h a s')) := by
  intro p e s0 m below meth c A E H locs ls hP hD hS hl
  obtain ⟨C, hr, hlocks, hA, hK, hN⟩ := id E
  obtain ⟨hx, hb, hml, hown, hts⟩ := id C
  unfold r_ranked_31 at hB
  refine lv_iload hx hb dX11_ranked_31 (lv_at hl 5 rfl) ?_
  refine lv_aload_n hx hb dX11_ranked_33 rfl (lv_at hl 0 rfl) ?_
  obtain ⟨q_, s1, hc, hB⟩ := bindI_inv hB
  refine q_goiF (va_runV (As := []) (rest := [.int x5]) C (cr_guesses hc _) (cwV 0 hts gX11_ranked_X11_guesses rfl rfl rfl (by decide +kernel) ⟨Nat.le_of_ble_eq_true rfl, Nat.le_of_ble_eq_true rfl⟩) (q_preV hK hP (ci := 11) (q0 := 0) rfl rfl rfl (q_preF hN hK hP hD)) rfl rfl hl.1 rfl (lv_room (Nat.le_of_ble_eq_true rfl)) dX11_ranked_34 ⟨Nat.le_of_ble_eq_true rfl, Nat.le_of_ble_eq_true rfl⟩) hD hS hA (fun r2 w1 H locs hw hP hD hS => ?_)
  obtain ⟨hq_, hw⟩ := hw; subst hw; subst hq_
  refine lv_icmp_ge (tgt := 90) hx hb dX11_ranked_37 (by decide) (fun c3 => ?_) (fun c3 => ?_)
  · have hB := if_p hB c3
    refine lv_iload hx hb dX11_ranked_90 (lv_at hl 4 rfl) ?_
    refine lv_if_ge (tgt := 97) hx hb dX11_ranked_92 (by decide) (fun c4 => ?_) (fun c4 => ?_)
    · have hB := if_p hB c4
      refine lv_iload hx hb dX11_ranked_97 (lv_at hl 4 rfl) ?_
      refine lv_istore_n (lv' := [(2, .int x4), (0, .ref h), (1, .int x1), (3, .int x3), (4, .int x4), (5, .int x5)]) hx hb dX11_ranked_99 rfl hl (by decide) rfl (fun ls hl => ?_)
      refine lv_iinc (v := (x3 + 1)) (lv' := [(3, .int (x3 + 1)), (2, .int x4), (0, .ref h), (1, .int x1), (4, .int x4), (5, .int x5)]) hx hb dX11_ranked_100 hl (k := 3) rfl (rfl) (by decide) rfl (fun ls hl => ?_)
      refine lv_goto (tgt := 20) hx hb dX11_ranked_103 (by decide) ?_
      exact hk20 _ _ _ _ hB p e s0 m below meth c A E H locs ls hP hD hS (lv_sub hl [2, 3, 1, 0] rfl)
    · have hB := if_n hB c4
      refine lv_iconst (v := (-1)) hx hb dX11_ranked_95 (by decide) ?_
      exact q_iret C hr hlocks hK hP hD hS (Nat.le_of_ble_eq_true rfl) (Nat.le_of_ble_eq_true rfl) dX11_ranked_96 (by cases hB; exact ⟨rfl, rfl⟩)
  · have hB := if_n hB c3
    refine lv_aload_n hx hb dX11_ranked_40 rfl (lv_at hl 0 rfl) ?_
    refine q_get (v := .ref (a 50)) C inX11_ranked_X11 hK hP 0 rfl rfl 50 (by decide) rfl LX11_ranked_113 rfl dX11_ranked_41 ?_
    refine lv_iload hx hb dX11_ranked_44 (lv_at hl 5 rfl) ?_
    obtain ⟨g5, hB⟩ := guard_inv hB
    refine q_iald (x := (s1.f 50 (Int32.toNatClampNeg x5))) C hK hP 32 1 rfl rfl (vpb_in g5) dX11_ranked_46 rfl ?_
    refine lv_if_le (tgt := 84) hx hb dX11_ranked_47 (by decide) (fun c6 => ?_) (fun c6 => ?_)
    · have hB := if_p hB c6
      exact br_ranked_84 (hk20) (hk31) _ _ _ _ _ _ hB p e s0 m below meth c A E H locs ls hP hD hS (lv_sub hl [0, 1, 2, 3, 4, 5] rfl)
    · have hB := if_n hB c6
      refine lv_iload_n hx hb dX11_ranked_50 rfl (lv_at hl 2 rfl) ?_
      refine lv_if_lt (tgt := 64) hx hb dX11_ranked_51 (by decide) (fun c7 => ?_) (fun c7 => ?_)
      · have hB := if_p hB c7
        exact br_ranked_64 (hk20) (hk31) _ _ _ _ _ _ hB p e s0 m below meth c A E H locs ls hP hD hS (lv_sub hl [0, 1, 2, 3, 4, 5] rfl)
      · have hB := if_n hB c7
        refine lv_aload_n hx hb dX11_ranked_54 rfl (lv_at hl 0 rfl) ?_
        refine lv_iload_n hx hb dX11_ranked_55 rfl (lv_at hl 2 rfl) ?_
        refine lv_iload hx hb dX11_ranked_56 (lv_at hl 5 rfl) ?_
        obtain ⟨q_, s8, hc, hB⟩ := bindI_inv hB
        refine q_goiF (va_runV (As := [.int x2, .int x5]) (rest := []) C (cr_isAhead hc _) (cwV 2 hts gX11_ranked_X11_isAhead rfl rfl rfl (by decide +kernel) ⟨Nat.le_of_ble_eq_true rfl, Nat.le_of_ble_eq_true rfl⟩) (q_preV hK hP (ci := 11) (q0 := 0) rfl rfl rfl (q_preF hN hK hP hD)) rfl rfl hl.1 rfl (lv_room (Nat.le_of_ble_eq_true rfl)) dX11_ranked_58 ⟨Nat.le_of_ble_eq_true rfl, Nat.le_of_ble_eq_true rfl⟩) hD hS hA (fun r9 w1 H locs hw hP hD hS => ?_)
        obtain ⟨hq_, hw⟩ := hw; subst hw; subst hq_
        refine lv_if_eq (tgt := 84) hx hb dX11_ranked_61 (by decide) (fun c10 => ?_) (fun c10 => ?_)
        · have hB := if_p hB c10
          exact br_ranked_84 (hk20) (hk31) _ _ _ _ _ _ hB p e s0 m below meth c A E H locs ls hP hD hS (lv_sub hl [0, 1, 2, 3, 4, 5] rfl)
        · have hB := if_n hB c10
          exact br_ranked_64 (hk20) (hk31) _ _ _ _ _ _ hB p e s0 m below meth c A E H locs ls hP hD hS (lv_sub hl [0, 1, 2, 3, 4, 5] rfl)
theorem br_ranked_31L {l : Launch} {dC : Nat → ClassId} {dI : Nat → Nat → Nat} {cB cI cJ cZ cS : ClassId} {h : Nat} {a : Nat → Nat} {as : List Value} {r : Int32} {s' : RS} {k20 : RS → Int32 → Int32 → Int32 → Option (Int32 × RS)} (hk20 : ∀ (s : RS) (x1 : Int32) (x2 : Int32) (x3 : Int32), k20 s x1 x2 x3 = some (r, s') → BlkI l yX11_ranked wsX11_ranked ({ frames := 5, cells := 0, slots := 0, locals := 112 }) cX11_ranked 6 (some .int) (dC, dI) (tysA cB cI cJ cZ cS) as 20 (mwS cB cI cJ cZ h a s) [(0, .ref h), (1, .int x1), (2, .int x2), (3, .int x3)] [] (fun x u => x = r ∧ u = (mwS cB cI cJ cZ h a s'))) : ∀ (n : Nat) (s : RS) (x1 : Int32) (x2 : Int32) (x3 : Int32) (x4 : Int32) (x5 : Int32), r_ranked_31L k20 n s x1 x2 x3 x4 x5 = some (r, s') → BlkI l yX11_ranked wsX11_ranked ({ frames := 5, cells := 0, slots := 0, locals := 112 }) cX11_ranked 6 (some .int) (dC, dI) (tysA cB cI cJ cZ cS) as 31 (mwS cB cI cJ cZ h a s) [(0, .ref h), (1, .int x1), (2, .int x2), (3, .int x3), (4, .int x4), (5, .int x5)] [] (fun x u => x = r ∧ u = (mwS cB cI cJ cZ h a s')) := by
  intro n
  induction n with
  | zero => intro s x1 x2 x3 x4 x5 hB; exact none_ne hB
  | succ n ih => intro s x1 x2 x3 x4 x5 hB; exact br_ranked_31 hk20 ih _ _ _ _ _ _ hB
set_option maxHeartbeats 4000000 in
set_option maxRecDepth 100000 in
theorem br_ranked_20 {l : Launch} {dC : Nat → ClassId} {dI : Nat → Nat → Nat} {cB cI cJ cZ cS : ClassId} {h : Nat} {a : Nat → Nat} {as : List Value} {r : Int32} {s' : RS} {k20 : RS → Int32 → Int32 → Int32 → Option (Int32 × RS)} (hk20 : ∀ (s : RS) (x1 : Int32) (x2 : Int32) (x3 : Int32), k20 s x1 x2 x3 = some (r, s') → BlkI l yX11_ranked wsX11_ranked ({ frames := 5, cells := 0, slots := 0, locals := 112 }) cX11_ranked 6 (some .int) (dC, dI) (tysA cB cI cJ cZ cS) as 20 (mwS cB cI cJ cZ h a s) [(0, .ref h), (1, .int x1), (2, .int x2), (3, .int x3)] [] (fun x u => x = r ∧ u = (mwS cB cI cJ cZ h a s'))) (s : RS) (x1 : Int32) (x2 : Int32) (x3 : Int32) (hB : r_ranked_20 k20 s x1 x2 x3 = some (r, s')) : BlkI l yX11_ranked wsX11_ranked ({ frames := 5, cells := 0, slots := 0, locals := 112 }) cX11_ranked 6 (some .int) (dC, dI) (tysA cB cI cJ cZ cS) as 20 (mwS cB cI cJ cZ h a s) [(0, .ref h), (1, .int x1), (2, .int x2), (3, .int x3)] [] (fun x u => x = r ∧ u = (mwS cB cI cJ cZ h a s')) := by
  intro p e s0 m below meth c A E H locs ls hP hD hS hl
  obtain ⟨C, hr, hlocks, hA, hK, hN⟩ := id E
  obtain ⟨hx, hb, hml, hown, hts⟩ := id C
  unfold r_ranked_20 at hB
  refine lv_iload_n hx hb dX11_ranked_20 rfl (lv_at hl 3 rfl) ?_
  refine lv_iload_n hx hb dX11_ranked_21 rfl (lv_at hl 1 rfl) ?_
  refine lv_icmp_gt (tgt := 106) hx hb dX11_ranked_22 (by decide) (fun c1 => ?_) (fun c1 => ?_)
  · have hB := if_p hB c1
    refine lv_iload_n hx hb dX11_ranked_106 rfl (lv_at hl 2 rfl) ?_
    exact q_iret C hr hlocks hK hP hD hS (Nat.le_of_ble_eq_true rfl) (Nat.le_of_ble_eq_true rfl) dX11_ranked_107 (by cases hB; exact ⟨rfl, rfl⟩)
  · have hB := if_n hB c1
    refine lv_iconst (v := (-1)) hx hb dX11_ranked_25 (by decide) ?_
    refine lv_istore (lv' := [(4, .int (-1)), (0, .ref h), (1, .int x1), (2, .int x2), (3, .int x3)]) hx hb dX11_ranked_26 hl (by decide) rfl (fun ls hl => ?_)
    refine lv_iconst (v := 0) hx hb dX11_ranked_28 (by decide) ?_
    refine lv_istore (lv' := [(5, .int 0), (4, .int (-1)), (0, .ref h), (1, .int x1), (2, .int x2), (3, .int x3)]) hx hb dX11_ranked_29 hl (by decide) rfl (fun ls hl => ?_)
    exact br_ranked_31L (hk20) fu _ _ _ _ _ _ hB p e s0 m below meth c A E H locs ls hP hD hS (lv_sub hl [2, 3, 4, 5, 1, 0] rfl)
theorem br_ranked_20L {l : Launch} {dC : Nat → ClassId} {dI : Nat → Nat → Nat} {cB cI cJ cZ cS : ClassId} {h : Nat} {a : Nat → Nat} {as : List Value} {r : Int32} {s' : RS} : ∀ (n : Nat) (s : RS) (x1 : Int32) (x2 : Int32) (x3 : Int32), r_ranked_20L n s x1 x2 x3 = some (r, s') → BlkI l yX11_ranked wsX11_ranked ({ frames := 5, cells := 0, slots := 0, locals := 112 }) cX11_ranked 6 (some .int) (dC, dI) (tysA cB cI cJ cZ cS) as 20 (mwS cB cI cJ cZ h a s) [(0, .ref h), (1, .int x1), (2, .int x2), (3, .int x3)] [] (fun x u => x = r ∧ u = (mwS cB cI cJ cZ h a s')) := by
  intro n
  induction n with
  | zero => intro s x1 x2 x3 hB; exact none_ne hB
  | succ n ih => intro s x1 x2 x3 hB; exact br_ranked_20 ih _ _ _ _ hB
set_option maxHeartbeats 4000000 in
set_option maxRecDepth 100000 in
theorem br_ranked {l : Launch} {dC : Nat → ClassId} {dI : Nat → Nat → Nat} {cB cI cJ cZ cS : ClassId} {h : Nat} {a : Nat → Nat} {as : List Value} {r : Int32} {s' : RS} (s : RS) (x1 : Int32) (hB : r_ranked s x1 = some (r, s')) : BlkI l yX11_ranked wsX11_ranked ({ frames := 5, cells := 0, slots := 0, locals := 112 }) cX11_ranked 6 (some .int) (dC, dI) (tysA cB cI cJ cZ cS) as 0 (mwS cB cI cJ cZ h a s) [(0, .ref h), (1, .int x1)] [] (fun x u => x = r ∧ u = (mwS cB cI cJ cZ h a s')) := by
  intro p e s0 m below meth c A E H locs ls hP hD hS hl
  obtain ⟨C, hr, hlocks, hA, hK, hN⟩ := id E
  obtain ⟨hx, hb, hml, hown, hts⟩ := id C
  unfold r_ranked at hB
  refine lv_iload_n hx hb dX11_ranked_0 rfl (lv_at hl 1 rfl) ?_
  refine lv_iconst (v := 0) hx hb dX11_ranked_1 (by decide) ?_
  refine lv_bipush (v := 19) hx hb dX11_ranked_2 (by decide) ?_
  obtain ⟨q_, hc, hB⟩ := bindP_inv hB
  refine q_goi0 (va_runS (As := [.int x1, .int 0, .int 19]) (rest := []) C (cr_in hc _) (va_cwS 3 hts gX11_ranked_X11_in rfl rfl rfl (by decide +kernel) ⟨Nat.le_of_ble_eq_true rfl, Nat.le_of_ble_eq_true rfl⟩) (q_pre0 hN hK) rfl rfl hl.1 rfl (lv_room (Nat.le_of_ble_eq_true rfl)) dX11_ranked_4 ⟨Nat.le_of_ble_eq_true rfl, Nat.le_of_ble_eq_true rfl⟩) hP hD hS hA (fun r1 w1 H locs hw hP hS => ?_)
  subst hw
  refine lv_if_ne (tgt := 12) hx hb dX11_ranked_7 (by decide) (fun c2 => ?_) (fun c2 => ?_)
  · have hB := if_n hB c2
    refine lv_aload_n hx hb dX11_ranked_12 rfl (lv_at hl 0 rfl) ?_
    obtain ⟨s3, hc, hB⟩ := bindP_inv hB
    refine q_govF (va_runV (As := []) (rest := []) C (cr_fillsChances hc _) (cwV 0 hts gX11_ranked_X11_fillsChances rfl rfl rfl (by decide +kernel) ⟨Nat.le_of_ble_eq_true rfl, Nat.le_of_ble_eq_true rfl⟩) (q_preV hK hP (ci := 11) (q0 := 0) rfl rfl rfl (q_preF hN hK hP hD)) rfl rfl hl.1 rfl (lv_room (Nat.le_of_ble_eq_true rfl)) dX11_ranked_13 ⟨Nat.le_of_ble_eq_true rfl, Nat.le_of_ble_eq_true rfl⟩) hD hS hA (fun w1 H locs hw hP hD hS => ?_)
    subst hw
    refine lv_iconst (v := (-1)) hx hb dX11_ranked_16 (by decide) ?_
    refine lv_istore_n (lv' := [(2, .int (-1)), (0, .ref h), (1, .int x1)]) hx hb dX11_ranked_17 rfl hl (by decide) rfl (fun ls hl => ?_)
    refine lv_iconst (v := 0) hx hb dX11_ranked_18 (by decide) ?_
    refine lv_istore_n (lv' := [(3, .int 0), (2, .int (-1)), (0, .ref h), (1, .int x1)]) hx hb dX11_ranked_19 rfl hl (by decide) rfl (fun ls hl => ?_)
    exact br_ranked_20L fu _ _ _ _ hB p e s0 m below meth c A E H locs ls hP hD hS (lv_sub hl [2, 3, 1, 0] rfl)
  · have hB := if_p hB c2
    refine lv_iconst (v := (-1)) hx hb dX11_ranked_10 (by decide) ?_
    exact q_iret C hr hlocks hK hP hD hS (Nat.le_of_ble_eq_true rfl) (Nat.le_of_ble_eq_true rfl) dX11_ranked_11 (by cases hB; exact ⟨rfl, rfl⟩)
theorem cr_ranked {l : Launch} {dC : Nat → ClassId} {dI : Nat → Nat → Nat} {cB cI cJ cZ cS : ClassId} {h : Nat} {a : Nat → Nat} {r : Int32} {s' : RS} {s : RS} {x1 : Int32} (hB : r_ranked s x1 = some (r, s')) : CI l yX11_ranked wsX11_ranked ({ frames := 5, cells := 0, slots := 0, locals := 112 }) (dC, dI) (tysA cB cI cJ cZ cS) (mwS cB cI cJ cZ h a s) [.ref h, .int x1] (fun x u => x = r ∧ u = (mwS cB cI cJ cZ h a s')) :=
  CI_of (cc := cX11_ranked) (maxL := 6) (ret := (some .int)) (by decide) rfl (Nat.le_of_ble_eq_true rfl) (br_ranked _ _ hB)
theorem LX11_share_215 : Cond.fieldLink RX11 215 "GuessFerryModel" "live" "I" ∈ wsX11_share := (List.mem_cons_of_mem _ (List.mem_append_left _ (List.mem_append_left _ (List.mem_of_getElem? (i := 1) rfl))))
theorem LX11_share_40 : Cond.fieldLink RX11 40 "GuessFerryModel" "waves" "[I" ∈ wsX11_share := (List.mem_cons_of_mem _ (List.mem_append_left _ (List.mem_append_left _ (List.mem_of_getElem? (i := 0) rfl))))
theorem inX11_share_X11 : ∀ w ∈ u_ws RX11 TX11 58, w ∈ wsX11_share := fun w h => (List.mem_cons_of_mem _ (List.mem_append_right _ h))
set_option maxHeartbeats 4000000 in
set_option maxRecDepth 100000 in
theorem br_share_73 {l : Launch} {dC : Nat → ClassId} {dI : Nat → Nat → Nat} {cB cI cJ cZ cS : ClassId} {h : Nat} {a : Nat → Nat} {as : List Value} {r : Int32} {s' : RS} {k44 : RS → Int32 → Int32 → Int32 → Option (Int32 × RS)} (hk44 : ∀ (s : RS) (x1 : Int32) (x3 : Int32) (x4 : Int32), k44 s x1 x3 x4 = some (r, s') → BlkI l yX11_share wsX11_share ({ frames := 4, cells := 0, slots := 0, locals := 90 }) cX11_share 5 (some .int) (dC, dI) (tysA cB cI cJ cZ cS) as 44 (mwS cB cI cJ cZ h a s) [(0, .ref h), (1, .int x1), (3, .int x3), (4, .int x4)] [] (fun x u => x = r ∧ u = (mwS cB cI cJ cZ h a s'))) (s : RS) (x1 : Int32) (x3 : Int32) (x4 : Int32) (hB : r_share_73 k44 s x1 x3 x4 = some (r, s')) : BlkI l yX11_share wsX11_share ({ frames := 4, cells := 0, slots := 0, locals := 90 }) cX11_share 5 (some .int) (dC, dI) (tysA cB cI cJ cZ cS) as 73 (mwS cB cI cJ cZ h a s) [(0, .ref h), (1, .int x1), (3, .int x3), (4, .int x4)] [] (fun x u => x = r ∧ u = (mwS cB cI cJ cZ h a s')) := by
  intro p e s0 m below meth c A E H locs ls hP hD hS hl
  obtain ⟨C, hr, hlocks, hA, hK, hN⟩ := id E
  obtain ⟨hx, hb, hml, hown, hts⟩ := id C
  unfold r_share_73 at hB
  refine lv_iinc (v := (x4 + 1)) (lv' := [(4, .int (x4 + 1)), (0, .ref h), (1, .int x1), (3, .int x3)]) hx hb dX11_share_73 hl (k := 3) rfl (rfl) (by decide) rfl (fun ls hl => ?_)
  refine lv_goto (tgt := 44) hx hb dX11_share_76 (by decide) ?_
  exact hk44 _ _ _ _ hB p e s0 m below meth c A E H locs ls hP hD hS (lv_sub hl [1, 2, 3, 0] rfl)
set_option maxHeartbeats 4000000 in
set_option maxRecDepth 100000 in
theorem br_share_44 {l : Launch} {dC : Nat → ClassId} {dI : Nat → Nat → Nat} {cB cI cJ cZ cS : ClassId} {h : Nat} {a : Nat → Nat} {as : List Value} {r : Int32} {s' : RS} {k44 : RS → Int32 → Int32 → Int32 → Option (Int32 × RS)} (hk44 : ∀ (s : RS) (x1 : Int32) (x3 : Int32) (x4 : Int32), k44 s x1 x3 x4 = some (r, s') → BlkI l yX11_share wsX11_share ({ frames := 4, cells := 0, slots := 0, locals := 90 }) cX11_share 5 (some .int) (dC, dI) (tysA cB cI cJ cZ cS) as 44 (mwS cB cI cJ cZ h a s) [(0, .ref h), (1, .int x1), (3, .int x3), (4, .int x4)] [] (fun x u => x = r ∧ u = (mwS cB cI cJ cZ h a s'))) (s : RS) (x1 : Int32) (x3 : Int32) (x4 : Int32) (hB : r_share_44 k44 s x1 x3 x4 = some (r, s')) : BlkI l yX11_share wsX11_share ({ frames := 4, cells := 0, slots := 0, locals := 90 }) cX11_share 5 (some .int) (dC, dI) (tysA cB cI cJ cZ cS) as 44 (mwS cB cI cJ cZ h a s) [(0, .ref h), (1, .int x1), (3, .int x3), (4, .int x4)] [] (fun x u => x = r ∧ u = (mwS cB cI cJ cZ h a s')) := by
  intro p e s0 m below meth c A E H locs ls hP hD hS hl
  obtain ⟨C, hr, hlocks, hA, hK, hN⟩ := id E
  obtain ⟨hx, hb, hml, hown, hts⟩ := id C
  unfold r_share_44 at hB
  refine lv_iload hx hb dX11_share_44 (lv_at hl 3 rfl) ?_
  refine lv_aload_n hx hb dX11_share_46 rfl (lv_at hl 0 rfl) ?_
  refine q_get (v := .ref (a 20)) C inX11_share_X11 hK hP 0 rfl rfl 20 (by decide) rfl LX11_share_40 rfl dX11_share_47 ?_
  refine lv_aload_n hx hb dX11_share_50 rfl (lv_at hl 0 rfl) ?_
  refine q_get (v := .int (s.v 18)) C inX11_share_X11 hK hP 0 rfl rfl 18 (by decide) rfl LX11_share_215 rfl dX11_share_51 ?_
  obtain ⟨g1, hB⟩ := guard_inv hB
  refine q_iald (x := (s.f 20 (Int32.toNatClampNeg (s.v 18)))) C hK hP 8 1 rfl rfl (vpb_in g1) dX11_share_54 rfl ?_
  refine lv_icmp_ge (tgt := 79) hx hb dX11_share_55 (by decide) (fun c2 => ?_) (fun c2 => ?_)
  · have hB := if_p hB c2
    refine lv_iload_n hx hb dX11_share_79 rfl (lv_at hl 2 rfl) ?_
    exact q_iret C hr hlocks hK hP hD hS (Nat.le_of_ble_eq_true rfl) (Nat.le_of_ble_eq_true rfl) dX11_share_80 (by cases hB; exact ⟨rfl, rfl⟩)
  · have hB := if_n hB c2
    refine lv_iload hx hb dX11_share_58 (lv_at hl 3 rfl) ?_
    refine lv_iload_n hx hb dX11_share_60 rfl (lv_at hl 1 rfl) ?_
    refine lv_icmp_eq (tgt := 73) hx hb dX11_share_61 (by decide) (fun c3 => ?_) (fun c3 => ?_)
    · have hB := if_p hB c3
      exact br_share_73 (hk44) _ _ _ _ hB p e s0 m below meth c A E H locs ls hP hD hS (lv_sub hl [0, 1, 2, 3] rfl)
    · have hB := if_n hB c3
      refine lv_iload_n hx hb dX11_share_64 rfl (lv_at hl 2 rfl) ?_
      refine lv_aload_n hx hb dX11_share_65 rfl (lv_at hl 0 rfl) ?_
      refine lv_iload hx hb dX11_share_66 (lv_at hl 3 rfl) ?_
      obtain ⟨q_, s4, hc, hB⟩ := bindI_inv hB
      refine q_goiF (va_runV (As := [.int x4]) (rest := [.int x3]) C (cr_sumAt hc _) (cwV 1 hts gX11_share_X11_sumAt rfl rfl rfl (by decide +kernel) ⟨Nat.le_of_ble_eq_true rfl, Nat.le_of_ble_eq_true rfl⟩) (q_preV hK hP (ci := 11) (q0 := 0) rfl rfl rfl (q_preF hN hK hP hD)) rfl rfl hl.1 rfl (lv_room (Nat.le_of_ble_eq_true rfl)) dX11_share_68 ⟨Nat.le_of_ble_eq_true rfl, Nat.le_of_ble_eq_true rfl⟩) hD hS hA (fun r5 w1 H locs hw hP hD hS => ?_)
      obtain ⟨hq_, hw⟩ := hw; subst hw; subst hq_
      refine lv_imul hx hb dX11_share_71 ?_
      refine lv_istore_n (lv' := [(3, .int (x3 * r5)), (0, .ref h), (1, .int x1), (4, .int x4)]) hx hb dX11_share_72 rfl hl (by decide) rfl (fun ls hl => ?_)
      exact br_share_73 (hk44) _ _ _ _ hB p e s0 m below meth c A E H locs ls hP hD hS (lv_sub hl [1, 2, 0, 3] rfl)
theorem br_share_44L {l : Launch} {dC : Nat → ClassId} {dI : Nat → Nat → Nat} {cB cI cJ cZ cS : ClassId} {h : Nat} {a : Nat → Nat} {as : List Value} {r : Int32} {s' : RS} : ∀ (n : Nat) (s : RS) (x1 : Int32) (x3 : Int32) (x4 : Int32), r_share_44L n s x1 x3 x4 = some (r, s') → BlkI l yX11_share wsX11_share ({ frames := 4, cells := 0, slots := 0, locals := 90 }) cX11_share 5 (some .int) (dC, dI) (tysA cB cI cJ cZ cS) as 44 (mwS cB cI cJ cZ h a s) [(0, .ref h), (1, .int x1), (3, .int x3), (4, .int x4)] [] (fun x u => x = r ∧ u = (mwS cB cI cJ cZ h a s')) := by
  intro n
  induction n with
  | zero => intro s x1 x3 x4 hB; exact none_ne hB
  | succ n ih => intro s x1 x3 x4 hB; exact br_share_44 ih _ _ _ _ hB
set_option maxHeartbeats 4000000 in
set_option maxRecDepth 100000 in
theorem br_share_40 {l : Launch} {dC : Nat → ClassId} {dI : Nat → Nat → Nat} {cB cI cJ cZ cS : ClassId} {h : Nat} {a : Nat → Nat} {as : List Value} {r : Int32} {s' : RS} (s : RS) (x1 : Int32) (t0 : Int32) (hB : r_share_40 s x1 t0 = some (r, s')) : BlkI l yX11_share wsX11_share ({ frames := 4, cells := 0, slots := 0, locals := 90 }) cX11_share 5 (some .int) (dC, dI) (tysA cB cI cJ cZ cS) as 40 (mwS cB cI cJ cZ h a s) [(0, .ref h), (1, .int x1)] [.int t0] (fun x u => x = r ∧ u = (mwS cB cI cJ cZ h a s')) := by
  intro p e s0 m below meth c A E H locs ls hP hD hS hl
  obtain ⟨C, hr, hlocks, hA, hK, hN⟩ := id E
  obtain ⟨hx, hb, hml, hown, hts⟩ := id C
  unfold r_share_40 at hB
  refine lv_istore_n (lv' := [(3, .int t0), (0, .ref h), (1, .int x1)]) hx hb dX11_share_40 rfl hl (by decide) rfl (fun ls hl => ?_)
  refine lv_iconst (v := 0) hx hb dX11_share_41 (by decide) ?_
  refine lv_istore (lv' := [(4, .int 0), (3, .int t0), (0, .ref h), (1, .int x1)]) hx hb dX11_share_42 hl (by decide) rfl (fun ls hl => ?_)
  exact br_share_44L fu _ _ _ _ hB p e s0 m below meth c A E H locs ls hP hD hS (lv_sub hl [2, 3, 1, 0] rfl)
set_option maxHeartbeats 4000000 in
set_option maxRecDepth 100000 in
theorem br_share {l : Launch} {dC : Nat → ClassId} {dI : Nat → Nat → Nat} {cB cI cJ cZ cS : ClassId} {h : Nat} {a : Nat → Nat} {as : List Value} {r : Int32} {s' : RS} (s : RS) (x1 : Int32) (x2 : Int32) (hB : r_share s x1 x2 = some (r, s')) : BlkI l yX11_share wsX11_share ({ frames := 4, cells := 0, slots := 0, locals := 90 }) cX11_share 5 (some .int) (dC, dI) (tysA cB cI cJ cZ cS) as 0 (mwS cB cI cJ cZ h a s) [(0, .ref h), (1, .int x1), (2, .int x2)] [] (fun x u => x = r ∧ u = (mwS cB cI cJ cZ h a s')) := by
  intro p e s0 m below meth c A E H locs ls hP hD hS hl
  obtain ⟨C, hr, hlocks, hA, hK, hN⟩ := id E
  obtain ⟨hx, hb, hml, hown, hts⟩ := id C
  unfold r_share at hB
  refine lv_aload_n hx hb dX11_share_0 rfl (lv_at hl 0 rfl) ?_
  refine lv_iload_n hx hb dX11_share_1 rfl (lv_at hl 1 rfl) ?_
  obtain ⟨q_, s1, hc, hB⟩ := bindI_inv hB
  refine q_goiF (va_runV (As := [.int x1]) (rest := []) C (cr_isWave hc _) (cwV 1 hts gX11_share_X11_isWave rfl rfl rfl (by decide +kernel) ⟨Nat.le_of_ble_eq_true rfl, Nat.le_of_ble_eq_true rfl⟩) (q_preV hK hP (ci := 11) (q0 := 0) rfl rfl rfl (q_preF hN hK hP hD)) rfl rfl hl.1 rfl (lv_room (Nat.le_of_ble_eq_true rfl)) dX11_share_2 ⟨Nat.le_of_ble_eq_true rfl, Nat.le_of_ble_eq_true rfl⟩) hD hS hA (fun r2 w1 H locs hw hP hD hS => ?_)
  obtain ⟨hq_, hw⟩ := hw; subst hw; subst hq_
  refine lv_if_eq (tgt := 15) hx hb dX11_share_5 (by decide) (fun c3 => ?_) (fun c3 => ?_)
  · have hB := if_p hB c3
    refine lv_iconst (v := (-1)) hx hb dX11_share_15 (by decide) ?_
    exact q_iret C hr hlocks hK hP hD hS (Nat.le_of_ble_eq_true rfl) (Nat.le_of_ble_eq_true rfl) dX11_share_16 (by cases hB; exact ⟨rfl, rfl⟩)
  · have hB := if_n hB c3
    refine lv_iload_n hx hb dX11_share_8 rfl (lv_at hl 2 rfl) ?_
    obtain ⟨q_, hc, hB⟩ := bindP_inv hB
    refine q_goi0 (va_runS (As := [.int x2]) (rest := []) C (cr_isThing hc _) (va_cwS 1 hts gX11_share_X11_isThing rfl rfl rfl (by decide +kernel) ⟨Nat.le_of_ble_eq_true rfl, Nat.le_of_ble_eq_true rfl⟩) (q_pre0 hN hK) rfl rfl hl.1 rfl (lv_room (Nat.le_of_ble_eq_true rfl)) dX11_share_9 ⟨Nat.le_of_ble_eq_true rfl, Nat.le_of_ble_eq_true rfl⟩) hP hD hS hA (fun r4 w1 H locs hw hP hS => ?_)
    subst hw
    refine lv_if_ne (tgt := 17) hx hb dX11_share_12 (by decide) (fun c5 => ?_) (fun c5 => ?_)
    · have hB := if_n hB c5
      refine lv_aload_n hx hb dX11_share_17 rfl (lv_at hl 0 rfl) ?_
      obtain ⟨s6, hc, hB⟩ := bindP_inv hB
      refine q_govF (va_runV (As := []) (rest := []) C (cr_copies hc _) (cwV 0 hts gX11_share_X11_copies rfl rfl rfl (by decide +kernel) ⟨Nat.le_of_ble_eq_true rfl, Nat.le_of_ble_eq_true rfl⟩) (q_preV hK hP (ci := 11) (q0 := 0) rfl rfl rfl (q_preF hN hK hP hD)) rfl rfl hl.1 rfl (lv_room (Nat.le_of_ble_eq_true rfl)) dX11_share_18 ⟨Nat.le_of_ble_eq_true rfl, Nat.le_of_ble_eq_true rfl⟩) hD hS hA (fun w1 H locs hw hP hD hS => ?_)
      subst hw
      refine lv_aload_n hx hb dX11_share_21 rfl (lv_at hl 0 rfl) ?_
      refine lv_iload_n hx hb dX11_share_22 rfl (lv_at hl 1 rfl) ?_
      refine lv_iload_n hx hb dX11_share_23 rfl (lv_at hl 2 rfl) ?_
      obtain ⟨q_, s7, hc, hB⟩ := bindI_inv hB
      refine q_goiF (va_runV (As := [.int x1, .int x2]) (rest := []) C (cr_mayBe hc _) (cwV 2 hts gX11_share_X11_mayBe rfl rfl rfl (by decide +kernel) ⟨Nat.le_of_ble_eq_true rfl, Nat.le_of_ble_eq_true rfl⟩) (q_preV hK hP (ci := 11) (q0 := 0) rfl rfl rfl (q_preF hN hK hP hD)) rfl rfl hl.1 rfl (lv_room (Nat.le_of_ble_eq_true rfl)) dX11_share_24 ⟨Nat.le_of_ble_eq_true rfl, Nat.le_of_ble_eq_true rfl⟩) hD hS hA (fun r8 w1 H locs hw hP hD hS => ?_)
      obtain ⟨hq_, hw⟩ := hw; subst hw; subst hq_
      refine lv_if_eq (tgt := 39) hx hb dX11_share_27 (by decide) (fun c9 => ?_) (fun c9 => ?_)
      · have hB := if_p hB c9
        refine lv_iconst (v := 0) hx hb dX11_share_39 (by decide) ?_
        exact br_share_40 _ _ _ hB p e s0 m below meth c A E H locs ls hP hD hS (lv_sub hl [0, 1] rfl)
      · have hB := if_n hB c9
        refine lv_aload_n hx hb dX11_share_30 rfl (lv_at hl 0 rfl) ?_
        refine lv_iload_n hx hb dX11_share_31 rfl (lv_at hl 1 rfl) ?_
        refine lv_iload_n hx hb dX11_share_32 rfl (lv_at hl 2 rfl) ?_
        obtain ⟨q_, s10, hc, hB⟩ := bindI_inv hB
        refine q_goiF (va_runV (As := [.int x1, .int x2]) (rest := []) C (cr_oddsAt hc _) (cwV 2 hts gX11_share_X11_oddsAt rfl rfl rfl (by decide +kernel) ⟨Nat.le_of_ble_eq_true rfl, Nat.le_of_ble_eq_true rfl⟩) (q_preV hK hP (ci := 11) (q0 := 0) rfl rfl rfl (q_preF hN hK hP hD)) rfl rfl hl.1 rfl (lv_room (Nat.le_of_ble_eq_true rfl)) dX11_share_33 ⟨Nat.le_of_ble_eq_true rfl, Nat.le_of_ble_eq_true rfl⟩) hD hS hA (fun r11 w1 H locs hw hP hD hS => ?_)
        obtain ⟨hq_, hw⟩ := hw; subst hw; subst hq_
        refine lv_goto (tgt := 40) hx hb dX11_share_36 (by decide) ?_
        exact br_share_40 _ _ _ hB p e s0 m below meth c A E H locs ls hP hD hS (lv_sub hl [0, 1] rfl)
    · have hB := if_p hB c5
      refine lv_iconst (v := (-1)) hx hb dX11_share_15 (by decide) ?_
      exact q_iret C hr hlocks hK hP hD hS (Nat.le_of_ble_eq_true rfl) (Nat.le_of_ble_eq_true rfl) dX11_share_16 (by cases hB; exact ⟨rfl, rfl⟩)
theorem cr_share {l : Launch} {dC : Nat → ClassId} {dI : Nat → Nat → Nat} {cB cI cJ cZ cS : ClassId} {h : Nat} {a : Nat → Nat} {r : Int32} {s' : RS} {s : RS} {x1 : Int32} {x2 : Int32} (hB : r_share s x1 x2 = some (r, s')) : CI l yX11_share wsX11_share ({ frames := 4, cells := 0, slots := 0, locals := 90 }) (dC, dI) (tysA cB cI cJ cZ cS) (mwS cB cI cJ cZ h a s) [.ref h, .int x1, .int x2] (fun x u => x = r ∧ u = (mwS cB cI cJ cZ h a s')) :=
  CI_of (cc := cX11_share) (maxL := 5) (ret := (some .int)) (by decide) rfl (Nat.le_of_ble_eq_true rfl) (br_share _ _ _ hB)
theorem LX11_comesOver_101 : Cond.fieldLink RX11 101 "GuessFerryModel" "row" "[I" ∈ wsX11_comesOver := (List.mem_cons_of_mem _ (List.mem_append_left _ (List.mem_append_left _ (List.mem_of_getElem? (i := 0) rfl))))
theorem inX11_comesOver_X11 : ∀ w ∈ u_ws RX11 TX11 58, w ∈ wsX11_comesOver := fun w h => (List.mem_cons_of_mem _ (List.mem_append_right _ h))
set_option maxHeartbeats 4000000 in
set_option maxRecDepth 100000 in
theorem br_comesOver_7 {l : Launch} {dC : Nat → ClassId} {dI : Nat → Nat → Nat} {cB cI cJ cZ cS : ClassId} {h : Nat} {a : Nat → Nat} {as : List Value} {r : Int32} {s' : RS} {k7 : RS → Int32 → Int32 → Int32 → Int32 → Option (Int32 × RS)} (hk7 : ∀ (s : RS) (x1 : Int32) (x2 : Int32) (x3 : Int32) (x4 : Int32), k7 s x1 x2 x3 x4 = some (r, s') → BlkI l yX11_comesOver wsX11_comesOver ({ frames := 7, cells := 0, slots := 0, locals := 161 }) cX11_comesOver 6 (some .boolean) (dC, dI) (tysA cB cI cJ cZ cS) as 7 (mwS cB cI cJ cZ h a s) [(0, .ref h), (1, .int x1), (2, .int x2), (3, .int x3), (4, .int x4)] [] (fun x u => x = r ∧ u = (mwS cB cI cJ cZ h a s'))) (s : RS) (x1 : Int32) (x2 : Int32) (x3 : Int32) (x4 : Int32) (hB : r_comesOver_7 k7 s x1 x2 x3 x4 = some (r, s')) : BlkI l yX11_comesOver wsX11_comesOver ({ frames := 7, cells := 0, slots := 0, locals := 161 }) cX11_comesOver 6 (some .boolean) (dC, dI) (tysA cB cI cJ cZ cS) as 7 (mwS cB cI cJ cZ h a s) [(0, .ref h), (1, .int x1), (2, .int x2), (3, .int x3), (4, .int x4)] [] (fun x u => x = r ∧ u = (mwS cB cI cJ cZ h a s')) := by
  intro p e s0 m below meth c A E H locs ls hP hD hS hl
  obtain ⟨C, hr, hlocks, hA, hK, hN⟩ := id E
  obtain ⟨hx, hb, hml, hown, hts⟩ := id C
  unfold r_comesOver_7 at hB
  refine lv_iload hx hb dX11_comesOver_7 (lv_at hl 4 rfl) ?_
  refine lv_iload_n hx hb dX11_comesOver_9 rfl (lv_at hl 3 rfl) ?_
  refine lv_icmp_ge (tgt := 57) hx hb dX11_comesOver_10 (by decide) (fun c1 => ?_) (fun c1 => ?_)
  · have hB := if_p hB c1
    refine lv_iconst (v := 0) hx hb dX11_comesOver_57 (by decide) ?_
    exact q_zret C hr hlocks (Or.inl rfl) hK hP hD hS (Nat.le_of_ble_eq_true rfl) (Nat.le_of_ble_eq_true rfl) dX11_comesOver_58 (by cases hB; exact ⟨rfl, rfl⟩)
  · have hB := if_n hB c1
    refine lv_aload_n hx hb dX11_comesOver_13 rfl (lv_at hl 0 rfl) ?_
    refine lv_iload_n hx hb dX11_comesOver_14 rfl (lv_at hl 1 rfl) ?_
    obtain ⟨q_, s2, hc, hB⟩ := bindI_inv hB
    refine q_goiF (va_runV (As := [.int x1]) (rest := []) C (cr_bestFor hc _) (cwV 1 hts gX11_comesOver_X11_bestFor rfl rfl rfl (by decide +kernel) ⟨Nat.le_of_ble_eq_true rfl, Nat.le_of_ble_eq_true rfl⟩) (q_preV hK hP (ci := 11) (q0 := 0) rfl rfl rfl (q_preF hN hK hP hD)) rfl rfl hl.1 rfl (lv_room (Nat.le_of_ble_eq_true rfl)) dX11_comesOver_15 ⟨Nat.le_of_ble_eq_true rfl, Nat.le_of_ble_eq_true rfl⟩) hD hS hA (fun r3 w1 H locs hw hP hD hS => ?_)
    obtain ⟨hq_, hw⟩ := hw; subst hw; subst hq_
    refine lv_istore (lv' := [(5, .int r3), (0, .ref h), (1, .int x1), (2, .int x2), (3, .int x3), (4, .int x4)]) hx hb dX11_comesOver_18 hl (by decide) rfl (fun ls hl => ?_)
    refine lv_iload hx hb dX11_comesOver_20 (lv_at hl 0 rfl) ?_
    refine lv_if_ge (tgt := 27) hx hb dX11_comesOver_22 (by decide) (fun c4 => ?_) (fun c4 => ?_)
    · have hB := if_p hB c4
      refine lv_aload_n hx hb dX11_comesOver_27 rfl (lv_at hl 1 rfl) ?_
      refine lv_iload_n hx hb dX11_comesOver_28 rfl (lv_at hl 2 rfl) ?_
      refine lv_iload hx hb dX11_comesOver_29 (lv_at hl 0 rfl) ?_
      refine lv_iload_n hx hb dX11_comesOver_31 rfl (lv_at hl 3 rfl) ?_
      obtain ⟨q_, s5, hc, hB⟩ := bindI_inv hB
      refine q_goiF (va_runV (As := [.int x1, .int r3, .int x2]) (rest := []) C (cr_goesBy hc _) (cwV 3 hts gX11_comesOver_X11_goesBy rfl rfl rfl (by decide +kernel) ⟨Nat.le_of_ble_eq_true rfl, Nat.le_of_ble_eq_true rfl⟩) (q_preV hK hP (ci := 11) (q0 := 0) rfl rfl rfl (q_preF hN hK hP hD)) rfl rfl hl.1 rfl (lv_room (Nat.le_of_ble_eq_true rfl)) dX11_comesOver_32 ⟨Nat.le_of_ble_eq_true rfl, Nat.le_of_ble_eq_true rfl⟩) hD hS hA (fun r6 w1 H locs hw hP hD hS => ?_)
      obtain ⟨hq_, hw⟩ := hw; subst hw; subst hq_
      refine lv_pop hx hb dX11_comesOver_35 rfl ?_
      refine lv_aload_n hx hb dX11_comesOver_36 rfl (lv_at hl 1 rfl) ?_
      refine q_get (v := .ref (a 44)) C inX11_comesOver_X11 hK hP 0 rfl rfl 44 (by decide) rfl LX11_comesOver_101 rfl dX11_comesOver_37 ?_
      refine lv_bipush (v := 15) hx hb dX11_comesOver_40 (by decide) ?_
      refine lv_iload_n hx hb dX11_comesOver_42 rfl (lv_at hl 2 rfl) ?_
      refine lv_iadd hx hb dX11_comesOver_43 ?_
      obtain ⟨g7, hB⟩ := guard_inv hB
      refine q_iald (x := (s5.f 44 (Int32.toNatClampNeg (15 + x1)))) C hK hP 28 1 rfl rfl (vpb_in g7) dX11_comesOver_44 rfl ?_
      refine lv_iconst (v := 2) hx hb dX11_comesOver_45 (by decide) ?_
      refine lv_icmp_ne (tgt := 51) hx hb dX11_comesOver_46 (by decide) (fun c8 => ?_) (fun c8 => ?_)
      · have hB := if_n hB c8
        refine lv_iinc (v := (x4 + 1)) (lv' := [(4, .int (x4 + 1)), (5, .int r3), (0, .ref h), (1, .int x1), (2, .int x2), (3, .int x3)]) hx hb dX11_comesOver_51 hl (k := 5) rfl (rfl) (by decide) rfl (fun ls hl => ?_)
        refine lv_goto (tgt := 7) hx hb dX11_comesOver_54 (by decide) ?_
        exact hk7 _ _ _ _ _ hB p e s0 m below meth c A E H locs ls hP hD hS (lv_sub hl [2, 3, 4, 5, 0] rfl)
      · have hB := if_p hB c8
        refine lv_iconst (v := 1) hx hb dX11_comesOver_49 (by decide) ?_
        exact q_zret C hr hlocks (Or.inr rfl) hK hP hD hS (Nat.le_of_ble_eq_true rfl) (Nat.le_of_ble_eq_true rfl) dX11_comesOver_50 (by cases hB; exact ⟨rfl, rfl⟩)
    · have hB := if_n hB c4
      refine lv_iconst (v := 0) hx hb dX11_comesOver_25 (by decide) ?_
      exact q_zret C hr hlocks (Or.inl rfl) hK hP hD hS (Nat.le_of_ble_eq_true rfl) (Nat.le_of_ble_eq_true rfl) dX11_comesOver_26 (by cases hB; exact ⟨rfl, rfl⟩)
theorem br_comesOver_7L {l : Launch} {dC : Nat → ClassId} {dI : Nat → Nat → Nat} {cB cI cJ cZ cS : ClassId} {h : Nat} {a : Nat → Nat} {as : List Value} {r : Int32} {s' : RS} : ∀ (n : Nat) (s : RS) (x1 : Int32) (x2 : Int32) (x3 : Int32) (x4 : Int32), r_comesOver_7L n s x1 x2 x3 x4 = some (r, s') → BlkI l yX11_comesOver wsX11_comesOver ({ frames := 7, cells := 0, slots := 0, locals := 161 }) cX11_comesOver 6 (some .boolean) (dC, dI) (tysA cB cI cJ cZ cS) as 7 (mwS cB cI cJ cZ h a s) [(0, .ref h), (1, .int x1), (2, .int x2), (3, .int x3), (4, .int x4)] [] (fun x u => x = r ∧ u = (mwS cB cI cJ cZ h a s')) := by
  intro n
  induction n with
  | zero => intro s x1 x2 x3 x4 hB; exact none_ne hB
  | succ n ih => intro s x1 x2 x3 x4 hB; exact br_comesOver_7 ih _ _ _ _ _ hB
set_option maxHeartbeats 4000000 in
set_option maxRecDepth 100000 in
theorem br_comesOver {l : Launch} {dC : Nat → ClassId} {dI : Nat → Nat → Nat} {cB cI cJ cZ cS : ClassId} {h : Nat} {a : Nat → Nat} {as : List Value} {r : Int32} {s' : RS} (s : RS) (x1 : Int32) (x2 : Int32) (x3 : Int32) (hB : r_comesOver s x1 x2 x3 = some (r, s')) : BlkI l yX11_comesOver wsX11_comesOver ({ frames := 7, cells := 0, slots := 0, locals := 161 }) cX11_comesOver 6 (some .boolean) (dC, dI) (tysA cB cI cJ cZ cS) as 0 (mwS cB cI cJ cZ h a s) [(0, .ref h), (1, .int x1), (2, .int x2), (3, .int x3)] [] (fun x u => x = r ∧ u = (mwS cB cI cJ cZ h a s')) := by
  intro p e s0 m below meth c A E H locs ls hP hD hS hl
  obtain ⟨C, hr, hlocks, hA, hK, hN⟩ := id E
  obtain ⟨hx, hb, hml, hown, hts⟩ := id C
  unfold r_comesOver at hB
  refine lv_aload_n hx hb dX11_comesOver_0 rfl (lv_at hl 0 rfl) ?_
  obtain ⟨s1, hc, hB⟩ := bindP_inv hB
  refine q_govF (va_runV (As := []) (rest := []) C (cr_copies hc _) (cwV 0 hts gX11_comesOver_X11_copies rfl rfl rfl (by decide +kernel) ⟨Nat.le_of_ble_eq_true rfl, Nat.le_of_ble_eq_true rfl⟩) (q_preV hK hP (ci := 11) (q0 := 0) rfl rfl rfl (q_preF hN hK hP hD)) rfl rfl hl.1 rfl (lv_room (Nat.le_of_ble_eq_true rfl)) dX11_comesOver_1 ⟨Nat.le_of_ble_eq_true rfl, Nat.le_of_ble_eq_true rfl⟩) hD hS hA (fun w1 H locs hw hP hD hS => ?_)
  subst hw
  refine lv_iconst (v := 0) hx hb dX11_comesOver_4 (by decide) ?_
  refine lv_istore (lv' := [(4, .int 0), (0, .ref h), (1, .int x1), (2, .int x2), (3, .int x3)]) hx hb dX11_comesOver_5 hl (by decide) rfl (fun ls hl => ?_)
  exact br_comesOver_7L fu _ _ _ _ _ hB p e s0 m below meth c A E H locs ls hP hD hS (lv_sub hl [1, 2, 3, 4, 0] rfl)
theorem cr_comesOver {l : Launch} {dC : Nat → ClassId} {dI : Nat → Nat → Nat} {cB cI cJ cZ cS : ClassId} {h : Nat} {a : Nat → Nat} {r : Int32} {s' : RS} {s : RS} {x1 : Int32} {x2 : Int32} {x3 : Int32} (hB : r_comesOver s x1 x2 x3 = some (r, s')) : CI l yX11_comesOver wsX11_comesOver ({ frames := 7, cells := 0, slots := 0, locals := 161 }) (dC, dI) (tysA cB cI cJ cZ cS) (mwS cB cI cJ cZ h a s) [.ref h, .int x1, .int x2, .int x3] (fun x u => x = r ∧ u = (mwS cB cI cJ cZ h a s')) :=
  CI_of (cc := cX11_comesOver) (maxL := 6) (ret := (some .boolean)) (by decide) rfl (Nat.le_of_ble_eq_true rfl) (br_comesOver _ _ _ _ hB)
end
section
theorem ggX11_sure_X11_isHere : GoodIn wsX11_sure wsX11_isHere := gi_sub (fun w h => List.mem_cons_of_mem _ (List.mem_append_left _ (List.mem_append_right _ (List.mem_append_left _ h)))) gd_wsX11_isHere
set_option maxRecDepth 20000 in
theorem gX11_sure_X11_isHere : GoodIn wsX11_sure (wsV RX11 364 RX11 yX11_isHere wsX11_isHere) := goodIn_app (goodIn_r _ [4, 5, 6, 7] (by decide +kernel) (by decide +kernel)) ggX11_sure_X11_isHere
theorem ggX11_sure_X11_in : GoodIn wsX11_sure wsX11_in := gi_sub (fun w h => List.mem_cons_of_mem _ (List.mem_append_left _ (List.mem_append_right _ (List.mem_append_right _ (List.mem_append_left _ h))))) gd_wsX11_in
set_option maxRecDepth 20000 in
theorem gX11_sure_X11_in : GoodIn wsX11_sure (va_wsS RX11 281 yX11_in wsX11_in) := goodIn_app (goodIn_of _ (by decide +kernel)) ggX11_sure_X11_in
theorem ggX11_sure_X11_fillsChances : GoodIn wsX11_sure wsX11_fillsChances := gi_sub (fun w h => List.mem_cons_of_mem _ (List.mem_append_left _ (List.mem_append_right _ (List.mem_append_right _ (List.mem_append_right _ (List.mem_append_left _ h)))))) gd_wsX11_fillsChances
set_option maxRecDepth 20000 in
theorem gX11_sure_X11_fillsChances : GoodIn wsX11_sure (wsV RX11 404 RX11 yX11_fillsChances wsX11_fillsChances) := goodIn_app (goodIn_r _ [10, 11, 12, 7] (by decide +kernel) (by decide +kernel)) ggX11_sure_X11_fillsChances
theorem ggX11_sure_X11_guesses : GoodIn wsX11_sure wsX11_guesses := gi_sub (fun w h => List.mem_cons_of_mem _ (List.mem_append_left _ (List.mem_append_right _ (List.mem_append_right _ (List.mem_append_right _ (List.mem_append_right _ (List.mem_append_left _ h))))))) gd_wsX11_guesses
set_option maxRecDepth 20000 in
theorem gX11_sure_X11_guesses : GoodIn wsX11_sure (wsV RX11 285 RX11 yX11_guesses wsX11_guesses) := goodIn_app (goodIn_r _ [13, 14, 15, 7] (by decide +kernel) (by decide +kernel)) ggX11_sure_X11_guesses
theorem ggX11_sure_X11_comesOver : GoodIn wsX11_sure wsX11_comesOver := gi_sub (fun w h => List.mem_cons_of_mem _ (List.mem_append_left _ (List.mem_append_right _ (List.mem_append_right _ (List.mem_append_right _ (List.mem_append_right _ (List.mem_append_right _ h))))))) gd_wsX11_comesOver
set_option maxRecDepth 20000 in
theorem gX11_sure_X11_comesOver : GoodIn wsX11_sure (wsV RX11 413 RX11 yX11_comesOver wsX11_comesOver) := goodIn_app (goodIn_r _ [16, 17, 18, 7] (by decide +kernel) (by decide +kernel)) ggX11_sure_X11_comesOver
theorem dX11_sure_0 : decode cX11_sure 0 = .ok (.aload_n 0, 1) := dc1_42 (by decide +kernel)
theorem dX11_sure_1 : decode cX11_sure 1 = .ok (.iload_n 1, 1) := dc1_27 (by decide +kernel)
theorem dX11_sure_2 : decode cX11_sure 2 = .ok (.invokevirtual 364, 3) := dcw_182 (by decide +kernel)
theorem dX11_sure_5 : decode cX11_sure 5 = .ok (.ifCond .eq 25, 3) := dcs_153 (n := 25) (by decide +kernel)
theorem dX11_sure_8 : decode cX11_sure 8 = .ok (.aload_n 0, 1) := dc1_42 (by decide +kernel)
theorem dX11_sure_9 : decode cX11_sure 9 = .ok (.getfield 40, 3) := dcw_180 (by decide +kernel)
theorem dX11_sure_12 : decode cX11_sure 12 = .ok (.aload_n 0, 1) := dc1_42 (by decide +kernel)
theorem dX11_sure_13 : decode cX11_sure 13 = .ok (.getfield 215, 3) := dcw_180 (by decide +kernel)
theorem dX11_sure_16 : decode cX11_sure 16 = .ok (.iaload, 1) := dc1_46 (by decide +kernel)
theorem dX11_sure_17 : decode cX11_sure 17 = .ok (.ifCond .eq 13, 3) := dcs_153 (n := 13) (by decide +kernel)
theorem dX11_sure_20 : decode cX11_sure 20 = .ok (.iload_n 2, 1) := dc1_28 (by decide +kernel)
theorem dX11_sure_21 : decode cX11_sure 21 = .ok (.iconst 1, 1) := dc1_4 (by decide +kernel)
theorem dX11_sure_22 : decode cX11_sure 22 = .ok (.bipush 8, 2) := dcb_16 (n := 8) (by decide +kernel)
theorem dX11_sure_24 : decode cX11_sure 24 = .ok (.invokestatic 281, 3) := dcw_184 (by decide +kernel)
theorem dX11_sure_27 : decode cX11_sure 27 = .ok (.ifCond .ne 5, 3) := dcs_154 (n := 5) (by decide +kernel)
theorem dX11_sure_30 : decode cX11_sure 30 = .ok (.iconst (-1), 1) := dc1_2 (by decide +kernel)
theorem dX11_sure_31 : decode cX11_sure 31 = .ok (.ireturn, 1) := dc1_172 (by decide +kernel)
theorem dX11_sure_32 : decode cX11_sure 32 = .ok (.aload_n 0, 1) := dc1_42 (by decide +kernel)
theorem dX11_sure_33 : decode cX11_sure 33 = .ok (.invokevirtual 404, 3) := dcw_182 (by decide +kernel)
theorem dX11_sure_36 : decode cX11_sure 36 = .ok (.iconst 0, 1) := dc1_3 (by decide +kernel)
theorem dX11_sure_37 : decode cX11_sure 37 = .ok (.istore_n 3, 1) := dc1_62 (by decide +kernel)
theorem dX11_sure_38 : decode cX11_sure 38 = .ok (.iconst 0, 1) := dc1_3 (by decide +kernel)
theorem dX11_sure_39 : decode cX11_sure 39 = .ok (.istore 4, 2) := dcu_54 (by decide +kernel)
theorem dX11_sure_41 : decode cX11_sure 41 = .ok (.iload 4, 2) := dcu_21 (by decide +kernel)
theorem dX11_sure_43 : decode cX11_sure 43 = .ok (.aload_n 0, 1) := dc1_42 (by decide +kernel)
theorem dX11_sure_44 : decode cX11_sure 44 = .ok (.invokevirtual 285, 3) := dcw_182 (by decide +kernel)
theorem dX11_sure_47 : decode cX11_sure 47 = .ok (.if_icmp .ge 40, 3) := dcs_162 (n := 40) (by decide +kernel)
theorem dX11_sure_50 : decode cX11_sure 50 = .ok (.aload_n 0, 1) := dc1_42 (by decide +kernel)
theorem dX11_sure_51 : decode cX11_sure 51 = .ok (.getfield 113, 3) := dcw_180 (by decide +kernel)
theorem dX11_sure_54 : decode cX11_sure 54 = .ok (.iload 4, 2) := dcu_21 (by decide +kernel)
theorem dX11_sure_56 : decode cX11_sure 56 = .ok (.iaload, 1) := dc1_46 (by decide +kernel)
theorem dX11_sure_57 : decode cX11_sure 57 = .ok (.ifCond .le 24, 3) := dcs_158 (n := 24) (by decide +kernel)
theorem dX11_sure_60 : decode cX11_sure 60 = .ok (.aload_n 0, 1) := dc1_42 (by decide +kernel)
theorem dX11_sure_61 : decode cX11_sure 61 = .ok (.iload_n 1, 1) := dc1_27 (by decide +kernel)
theorem dX11_sure_62 : decode cX11_sure 62 = .ok (.iload 4, 2) := dcu_21 (by decide +kernel)
theorem dX11_sure_64 : decode cX11_sure 64 = .ok (.iload_n 2, 1) := dc1_28 (by decide +kernel)
theorem dX11_sure_65 : decode cX11_sure 65 = .ok (.invokevirtual 413, 3) := dcw_182 (by decide +kernel)
theorem dX11_sure_68 : decode cX11_sure 68 = .ok (.ifCond .eq 13, 3) := dcs_153 (n := 13) (by decide +kernel)
theorem dX11_sure_71 : decode cX11_sure 71 = .ok (.iload_n 3, 1) := dc1_29 (by decide +kernel)
theorem dX11_sure_72 : decode cX11_sure 72 = .ok (.aload_n 0, 1) := dc1_42 (by decide +kernel)
theorem dX11_sure_73 : decode cX11_sure 73 = .ok (.getfield 113, 3) := dcw_180 (by decide +kernel)
theorem dX11_sure_76 : decode cX11_sure 76 = .ok (.iload 4, 2) := dcu_21 (by decide +kernel)
theorem dX11_sure_78 : decode cX11_sure 78 = .ok (.iaload, 1) := dc1_46 (by decide +kernel)
theorem dX11_sure_79 : decode cX11_sure 79 = .ok (.iadd, 1) := dc1_96 (by decide +kernel)
theorem dX11_sure_80 : decode cX11_sure 80 = .ok (.istore_n 3, 1) := dc1_62 (by decide +kernel)
theorem dX11_sure_81 : decode cX11_sure 81 = .ok (.iinc 4 1, 3) := dc_iinc (m := 1) (by decide +kernel)
theorem dX11_sure_84 : decode cX11_sure 84 = .ok (.goto (-43), 3) := dcs_167 (n := 65493) (by decide +kernel)
theorem dX11_sure_87 : decode cX11_sure 87 = .ok (.iload_n 3, 1) := dc1_29 (by decide +kernel)
theorem dX11_sure_88 : decode cX11_sure 88 = .ok (.ireturn, 1) := dc1_172 (by decide +kernel)
theorem ggX11_alike_X11_isGuess : GoodIn wsX11_alike wsX11_isGuess := gi_sub (fun w h => List.mem_cons_of_mem _ (List.mem_append_left _ (List.mem_append_right _ (List.mem_append_left _ h)))) gd_wsX11_isGuess
set_option maxRecDepth 20000 in
theorem gX11_alike_X11_isGuess : GoodIn wsX11_alike (wsV RX11 367 RX11 yX11_isGuess wsX11_isGuess) := goodIn_app (goodIn_r _ [3, 4, 5, 6] (by decide +kernel) (by decide +kernel)) ggX11_alike_X11_isGuess
theorem ggX11_alike_X11_thingAt : GoodIn wsX11_alike wsX11_thingAt := gi_sub (fun w h => List.mem_cons_of_mem _ (List.mem_append_left _ (List.mem_append_right _ (List.mem_append_right _ h)))) gd_wsX11_thingAt
set_option maxRecDepth 20000 in
theorem gX11_alike_X11_thingAt : GoodIn wsX11_alike (wsV RX11 330 RX11 yX11_thingAt wsX11_thingAt) := goodIn_app (goodIn_r _ [7, 8, 9, 6] (by decide +kernel) (by decide +kernel)) ggX11_alike_X11_thingAt
theorem dX11_alike_0 : decode cX11_alike 0 = .ok (.aload_n 0, 1) := dc1_42 (by decide +kernel)
theorem dX11_alike_1 : decode cX11_alike 1 = .ok (.iload_n 1, 1) := dc1_27 (by decide +kernel)
theorem dX11_alike_2 : decode cX11_alike 2 = .ok (.invokevirtual 367, 3) := dcw_182 (by decide +kernel)
theorem dX11_alike_5 : decode cX11_alike 5 = .ok (.ifCond .eq 11, 3) := dcs_153 (n := 11) (by decide +kernel)
theorem dX11_alike_8 : decode cX11_alike 8 = .ok (.aload_n 0, 1) := dc1_42 (by decide +kernel)
theorem dX11_alike_9 : decode cX11_alike 9 = .ok (.iload_n 2, 1) := dc1_28 (by decide +kernel)
theorem dX11_alike_10 : decode cX11_alike 10 = .ok (.invokevirtual 367, 3) := dcw_182 (by decide +kernel)
theorem dX11_alike_13 : decode cX11_alike 13 = .ok (.ifCond .ne 5, 3) := dcs_154 (n := 5) (by decide +kernel)
theorem dX11_alike_16 : decode cX11_alike 16 = .ok (.iconst (-1), 1) := dc1_2 (by decide +kernel)
theorem dX11_alike_17 : decode cX11_alike 17 = .ok (.ireturn, 1) := dc1_172 (by decide +kernel)
theorem dX11_alike_18 : decode cX11_alike 18 = .ok (.iconst 0, 1) := dc1_3 (by decide +kernel)
theorem dX11_alike_19 : decode cX11_alike 19 = .ok (.istore_n 3, 1) := dc1_62 (by decide +kernel)
theorem dX11_alike_20 : decode cX11_alike 20 = .ok (.iload_n 3, 1) := dc1_29 (by decide +kernel)
theorem dX11_alike_21 : decode cX11_alike 21 = .ok (.aload_n 0, 1) := dc1_42 (by decide +kernel)
theorem dX11_alike_22 : decode cX11_alike 22 = .ok (.getfield 40, 3) := dcw_180 (by decide +kernel)
theorem dX11_alike_25 : decode cX11_alike 25 = .ok (.aload_n 0, 1) := dc1_42 (by decide +kernel)
theorem dX11_alike_26 : decode cX11_alike 26 = .ok (.getfield 215, 3) := dcw_180 (by decide +kernel)
theorem dX11_alike_29 : decode cX11_alike 29 = .ok (.iaload, 1) := dc1_46 (by decide +kernel)
theorem dX11_alike_30 : decode cX11_alike 30 = .ok (.if_icmp .ge 24, 3) := dcs_162 (n := 24) (by decide +kernel)
theorem dX11_alike_33 : decode cX11_alike 33 = .ok (.aload_n 0, 1) := dc1_42 (by decide +kernel)
theorem dX11_alike_34 : decode cX11_alike 34 = .ok (.iload_n 1, 1) := dc1_27 (by decide +kernel)
theorem dX11_alike_35 : decode cX11_alike 35 = .ok (.iload_n 3, 1) := dc1_29 (by decide +kernel)
theorem dX11_alike_36 : decode cX11_alike 36 = .ok (.invokevirtual 330, 3) := dcw_182 (by decide +kernel)
theorem dX11_alike_39 : decode cX11_alike 39 = .ok (.aload_n 0, 1) := dc1_42 (by decide +kernel)
theorem dX11_alike_40 : decode cX11_alike 40 = .ok (.iload_n 2, 1) := dc1_28 (by decide +kernel)
theorem dX11_alike_41 : decode cX11_alike 41 = .ok (.iload_n 3, 1) := dc1_29 (by decide +kernel)
theorem dX11_alike_42 : decode cX11_alike 42 = .ok (.invokevirtual 330, 3) := dcw_182 (by decide +kernel)
theorem dX11_alike_45 : decode cX11_alike 45 = .ok (.if_icmp .ne 9, 3) := dcs_160 (n := 9) (by decide +kernel)
theorem dX11_alike_48 : decode cX11_alike 48 = .ok (.iinc 3 1, 3) := dc_iinc (m := 1) (by decide +kernel)
theorem dX11_alike_51 : decode cX11_alike 51 = .ok (.goto (-31), 3) := dcs_167 (n := 65505) (by decide +kernel)
theorem dX11_alike_54 : decode cX11_alike 54 = .ok (.iload_n 3, 1) := dc1_29 (by decide +kernel)
theorem dX11_alike_55 : decode cX11_alike 55 = .ok (.ireturn, 1) := dc1_172 (by decide +kernel)
theorem ggX11_sunk_X11_isGuess : GoodIn wsX11_sunk wsX11_isGuess := gi_sub (fun w h => List.mem_cons_of_mem _ (List.mem_append_left _ (List.mem_append_right _ (List.mem_append_left _ h)))) gd_wsX11_isGuess
set_option maxRecDepth 20000 in
theorem gX11_sunk_X11_isGuess : GoodIn wsX11_sunk (wsV RX11 367 RX11 yX11_isGuess wsX11_isGuess) := goodIn_app (goodIn_r _ [4, 5, 6, 7] (by decide +kernel) (by decide +kernel)) ggX11_sunk_X11_isGuess
theorem ggX11_sunk_X11_copies : GoodIn wsX11_sunk wsX11_copies := gi_sub (fun w h => List.mem_cons_of_mem _ (List.mem_append_left _ (List.mem_append_right _ (List.mem_append_right _ (List.mem_append_left _ h))))) gd_wsX11_copies
set_option maxRecDepth 20000 in
theorem gX11_sunk_X11_copies : GoodIn wsX11_sunk (wsV RX11 352 RX11 yX11_copies wsX11_copies) := goodIn_app (goodIn_r _ [8, 9, 10, 7] (by decide +kernel) (by decide +kernel)) ggX11_sunk_X11_copies
theorem ggX11_sunk_X11_isHere : GoodIn wsX11_sunk wsX11_isHere := gi_sub (fun w h => List.mem_cons_of_mem _ (List.mem_append_left _ (List.mem_append_right _ (List.mem_append_right _ (List.mem_append_right _ (List.mem_append_left _ h)))))) gd_wsX11_isHere
set_option maxRecDepth 20000 in
theorem gX11_sunk_X11_isHere : GoodIn wsX11_sunk (wsV RX11 364 RX11 yX11_isHere wsX11_isHere) := goodIn_app (goodIn_r _ [11, 12, 13, 7] (by decide +kernel) (by decide +kernel)) ggX11_sunk_X11_isHere
theorem ggX11_sunk_X11_bearsBy : GoodIn wsX11_sunk wsX11_bearsBy := gi_sub (fun w h => List.mem_cons_of_mem _ (List.mem_append_left _ (List.mem_append_right _ (List.mem_append_right _ (List.mem_append_right _ (List.mem_append_right _ h)))))) gd_wsX11_bearsBy
set_option maxRecDepth 20000 in
theorem gX11_sunk_X11_bearsBy : GoodIn wsX11_sunk (wsV RX11 336 RX11 yX11_bearsBy wsX11_bearsBy) := goodIn_app (goodIn_r _ [14, 15, 16, 7] (by decide +kernel) (by decide +kernel)) ggX11_sunk_X11_bearsBy
theorem dX11_sunk_0 : decode cX11_sunk 0 = .ok (.aload_n 0, 1) := dc1_42 (by decide +kernel)
theorem dX11_sunk_1 : decode cX11_sunk 1 = .ok (.iload_n 1, 1) := dc1_27 (by decide +kernel)
theorem dX11_sunk_2 : decode cX11_sunk 2 = .ok (.invokevirtual 367, 3) := dcw_182 (by decide +kernel)
theorem dX11_sunk_5 : decode cX11_sunk 5 = .ok (.ifCond .ne 5, 3) := dcs_154 (n := 5) (by decide +kernel)
theorem dX11_sunk_8 : decode cX11_sunk 8 = .ok (.iconst (-1), 1) := dc1_2 (by decide +kernel)
theorem dX11_sunk_9 : decode cX11_sunk 9 = .ok (.ireturn, 1) := dc1_172 (by decide +kernel)
theorem dX11_sunk_10 : decode cX11_sunk 10 = .ok (.aload_n 0, 1) := dc1_42 (by decide +kernel)
theorem dX11_sunk_11 : decode cX11_sunk 11 = .ok (.invokevirtual 352, 3) := dcw_182 (by decide +kernel)
theorem dX11_sunk_14 : decode cX11_sunk 14 = .ok (.iconst 0, 1) := dc1_3 (by decide +kernel)
theorem dX11_sunk_15 : decode cX11_sunk 15 = .ok (.istore_n 2, 1) := dc1_61 (by decide +kernel)
theorem dX11_sunk_16 : decode cX11_sunk 16 = .ok (.iconst 0, 1) := dc1_3 (by decide +kernel)
theorem dX11_sunk_17 : decode cX11_sunk 17 = .ok (.istore_n 3, 1) := dc1_62 (by decide +kernel)
theorem dX11_sunk_18 : decode cX11_sunk 18 = .ok (.iload_n 3, 1) := dc1_29 (by decide +kernel)
theorem dX11_sunk_19 : decode cX11_sunk 19 = .ok (.aload_n 0, 1) := dc1_42 (by decide +kernel)
theorem dX11_sunk_20 : decode cX11_sunk 20 = .ok (.getfield 49, 3) := dcw_180 (by decide +kernel)
theorem dX11_sunk_23 : decode cX11_sunk 23 = .ok (.aload_n 0, 1) := dc1_42 (by decide +kernel)
theorem dX11_sunk_24 : decode cX11_sunk 24 = .ok (.getfield 215, 3) := dcw_180 (by decide +kernel)
theorem dX11_sunk_27 : decode cX11_sunk 27 = .ok (.iaload, 1) := dc1_46 (by decide +kernel)
theorem dX11_sunk_28 : decode cX11_sunk 28 = .ok (.if_icmp .ge 41, 3) := dcs_162 (n := 41) (by decide +kernel)
theorem dX11_sunk_31 : decode cX11_sunk 31 = .ok (.aload_n 0, 1) := dc1_42 (by decide +kernel)
theorem dX11_sunk_32 : decode cX11_sunk 32 = .ok (.iload_n 3, 1) := dc1_29 (by decide +kernel)
theorem dX11_sunk_33 : decode cX11_sunk 33 = .ok (.invokevirtual 364, 3) := dcw_182 (by decide +kernel)
theorem dX11_sunk_36 : decode cX11_sunk 36 = .ok (.ifCond .eq 27, 3) := dcs_153 (n := 27) (by decide +kernel)
theorem dX11_sunk_39 : decode cX11_sunk 39 = .ok (.aload_n 0, 1) := dc1_42 (by decide +kernel)
theorem dX11_sunk_40 : decode cX11_sunk 40 = .ok (.iload_n 3, 1) := dc1_29 (by decide +kernel)
theorem dX11_sunk_41 : decode cX11_sunk 41 = .ok (.iload_n 1, 1) := dc1_27 (by decide +kernel)
theorem dX11_sunk_42 : decode cX11_sunk 42 = .ok (.invokevirtual 336, 3) := dcw_182 (by decide +kernel)
theorem dX11_sunk_45 : decode cX11_sunk 45 = .ok (.aload_n 0, 1) := dc1_42 (by decide +kernel)
theorem dX11_sunk_46 : decode cX11_sunk 46 = .ok (.getfield 40, 3) := dcw_180 (by decide +kernel)
theorem dX11_sunk_49 : decode cX11_sunk 49 = .ok (.aload_n 0, 1) := dc1_42 (by decide +kernel)
theorem dX11_sunk_50 : decode cX11_sunk 50 = .ok (.getfield 215, 3) := dcw_180 (by decide +kernel)
theorem dX11_sunk_53 : decode cX11_sunk 53 = .ok (.iaload, 1) := dc1_46 (by decide +kernel)
theorem dX11_sunk_54 : decode cX11_sunk 54 = .ok (.if_icmp .ge 9, 3) := dcs_162 (n := 9) (by decide +kernel)
theorem dX11_sunk_57 : decode cX11_sunk 57 = .ok (.iload_n 2, 1) := dc1_28 (by decide +kernel)
theorem dX11_sunk_58 : decode cX11_sunk 58 = .ok (.iconst 1, 1) := dc1_4 (by decide +kernel)
theorem dX11_sunk_59 : decode cX11_sunk 59 = .ok (.iload_n 3, 1) := dc1_29 (by decide +kernel)
theorem dX11_sunk_60 : decode cX11_sunk 60 = .ok (.ishl, 1) := dc1_120 (by decide +kernel)
theorem dX11_sunk_61 : decode cX11_sunk 61 = .ok (.ior, 1) := dc1_128 (by decide +kernel)
theorem dX11_sunk_62 : decode cX11_sunk 62 = .ok (.istore_n 2, 1) := dc1_61 (by decide +kernel)
theorem dX11_sunk_63 : decode cX11_sunk 63 = .ok (.iinc 3 1, 3) := dc_iinc (m := 1) (by decide +kernel)
theorem dX11_sunk_66 : decode cX11_sunk 66 = .ok (.goto (-48), 3) := dcs_167 (n := 65488) (by decide +kernel)
theorem dX11_sunk_69 : decode cX11_sunk 69 = .ok (.iload_n 2, 1) := dc1_28 (by decide +kernel)
theorem dX11_sunk_70 : decode cX11_sunk 70 = .ok (.ireturn, 1) := dc1_172 (by decide +kernel)
theorem ggX11_stuck_X11_copies : GoodIn wsX11_stuck wsX11_copies := gi_sub (fun w h => List.mem_cons_of_mem _ (List.mem_append_left _ (List.mem_append_right _ (List.mem_append_left _ h)))) gd_wsX11_copies
set_option maxRecDepth 20000 in
theorem gX11_stuck_X11_copies : GoodIn wsX11_stuck (wsV RX11 352 RX11 yX11_copies wsX11_copies) := goodIn_app (goodIn_r _ [3, 4, 5, 6] (by decide +kernel) (by decide +kernel)) ggX11_stuck_X11_copies
theorem ggX11_stuck_X11_isHere : GoodIn wsX11_stuck wsX11_isHere := gi_sub (fun w h => List.mem_cons_of_mem _ (List.mem_append_left _ (List.mem_append_right _ (List.mem_append_right _ (List.mem_append_left _ h))))) gd_wsX11_isHere
set_option maxRecDepth 20000 in
theorem gX11_stuck_X11_isHere : GoodIn wsX11_stuck (wsV RX11 364 RX11 yX11_isHere wsX11_isHere) := goodIn_app (goodIn_r _ [7, 8, 9, 6] (by decide +kernel) (by decide +kernel)) ggX11_stuck_X11_isHere
theorem ggX11_stuck_X11_bestFor : GoodIn wsX11_stuck wsX11_bestFor := gi_sub (fun w h => List.mem_cons_of_mem _ (List.mem_append_left _ (List.mem_append_right _ (List.mem_append_right _ (List.mem_append_right _ h))))) gd_wsX11_bestFor
set_option maxRecDepth 20000 in
theorem gX11_stuck_X11_bestFor : GoodIn wsX11_stuck (wsV RX11 398 RX11 yX11_bestFor wsX11_bestFor) := goodIn_app (goodIn_r _ [10, 11, 12, 6] (by decide +kernel) (by decide +kernel)) ggX11_stuck_X11_bestFor
theorem dX11_stuck_0 : decode cX11_stuck 0 = .ok (.aload_n 0, 1) := dc1_42 (by decide +kernel)
theorem dX11_stuck_1 : decode cX11_stuck 1 = .ok (.invokevirtual 352, 3) := dcw_182 (by decide +kernel)
theorem dX11_stuck_4 : decode cX11_stuck 4 = .ok (.iconst 0, 1) := dc1_3 (by decide +kernel)
theorem dX11_stuck_5 : decode cX11_stuck 5 = .ok (.istore_n 1, 1) := dc1_60 (by decide +kernel)
theorem dX11_stuck_6 : decode cX11_stuck 6 = .ok (.iconst 0, 1) := dc1_3 (by decide +kernel)
theorem dX11_stuck_7 : decode cX11_stuck 7 = .ok (.istore_n 2, 1) := dc1_61 (by decide +kernel)
theorem dX11_stuck_8 : decode cX11_stuck 8 = .ok (.iload_n 2, 1) := dc1_28 (by decide +kernel)
theorem dX11_stuck_9 : decode cX11_stuck 9 = .ok (.aload_n 0, 1) := dc1_42 (by decide +kernel)
theorem dX11_stuck_10 : decode cX11_stuck 10 = .ok (.getfield 49, 3) := dcw_180 (by decide +kernel)
theorem dX11_stuck_13 : decode cX11_stuck 13 = .ok (.aload_n 0, 1) := dc1_42 (by decide +kernel)
theorem dX11_stuck_14 : decode cX11_stuck 14 = .ok (.getfield 215, 3) := dcw_180 (by decide +kernel)
theorem dX11_stuck_17 : decode cX11_stuck 17 = .ok (.iaload, 1) := dc1_46 (by decide +kernel)
theorem dX11_stuck_18 : decode cX11_stuck 18 = .ok (.if_icmp .ge 31, 3) := dcs_162 (n := 31) (by decide +kernel)
theorem dX11_stuck_21 : decode cX11_stuck 21 = .ok (.aload_n 0, 1) := dc1_42 (by decide +kernel)
theorem dX11_stuck_22 : decode cX11_stuck 22 = .ok (.iload_n 2, 1) := dc1_28 (by decide +kernel)
theorem dX11_stuck_23 : decode cX11_stuck 23 = .ok (.invokevirtual 364, 3) := dcw_182 (by decide +kernel)
theorem dX11_stuck_26 : decode cX11_stuck 26 = .ok (.ifCond .eq 17, 3) := dcs_153 (n := 17) (by decide +kernel)
theorem dX11_stuck_29 : decode cX11_stuck 29 = .ok (.aload_n 0, 1) := dc1_42 (by decide +kernel)
theorem dX11_stuck_30 : decode cX11_stuck 30 = .ok (.iload_n 2, 1) := dc1_28 (by decide +kernel)
theorem dX11_stuck_31 : decode cX11_stuck 31 = .ok (.invokevirtual 398, 3) := dcw_182 (by decide +kernel)
theorem dX11_stuck_34 : decode cX11_stuck 34 = .ok (.ifCond .ge 9, 3) := dcs_156 (n := 9) (by decide +kernel)
theorem dX11_stuck_37 : decode cX11_stuck 37 = .ok (.iload_n 1, 1) := dc1_27 (by decide +kernel)
theorem dX11_stuck_38 : decode cX11_stuck 38 = .ok (.iconst 1, 1) := dc1_4 (by decide +kernel)
theorem dX11_stuck_39 : decode cX11_stuck 39 = .ok (.iload_n 2, 1) := dc1_28 (by decide +kernel)
theorem dX11_stuck_40 : decode cX11_stuck 40 = .ok (.ishl, 1) := dc1_120 (by decide +kernel)
theorem dX11_stuck_41 : decode cX11_stuck 41 = .ok (.ior, 1) := dc1_128 (by decide +kernel)
theorem dX11_stuck_42 : decode cX11_stuck 42 = .ok (.istore_n 1, 1) := dc1_60 (by decide +kernel)
theorem dX11_stuck_43 : decode cX11_stuck 43 = .ok (.iinc 2 1, 3) := dc_iinc (m := 1) (by decide +kernel)
theorem dX11_stuck_46 : decode cX11_stuck 46 = .ok (.goto (-38), 3) := dcs_167 (n := 65498) (by decide +kernel)
theorem dX11_stuck_49 : decode cX11_stuck 49 = .ok (.iload_n 1, 1) := dc1_27 (by decide +kernel)
theorem dX11_stuck_50 : decode cX11_stuck 50 = .ok (.ireturn, 1) := dc1_172 (by decide +kernel)
theorem ggX11_spread_X11_isWave : GoodIn wsX11_spread wsX11_isWave := gi_sub (fun w h => List.mem_cons_of_mem _ (List.mem_append_left _ (List.mem_append_right _ (List.mem_append_left _ h)))) gd_wsX11_isWave
set_option maxRecDepth 20000 in
theorem gX11_spread_X11_isWave : GoodIn wsX11_spread (wsV RX11 349 RX11 yX11_isWave wsX11_isWave) := goodIn_app (goodIn_r _ [1, 2, 3, 4] (by decide +kernel) (by decide +kernel)) ggX11_spread_X11_isWave
theorem ggX11_spread_X11_copies : GoodIn wsX11_spread wsX11_copies := gi_sub (fun w h => List.mem_cons_of_mem _ (List.mem_append_left _ (List.mem_append_right _ (List.mem_append_right _ (List.mem_append_left _ h))))) gd_wsX11_copies
set_option maxRecDepth 20000 in
theorem gX11_spread_X11_copies : GoodIn wsX11_spread (wsV RX11 352 RX11 yX11_copies wsX11_copies) := goodIn_app (goodIn_r _ [5, 6, 7, 4] (by decide +kernel) (by decide +kernel)) ggX11_spread_X11_copies
theorem ggX11_spread_X11_mayBe : GoodIn wsX11_spread wsX11_mayBe := gi_sub (fun w h => List.mem_cons_of_mem _ (List.mem_append_left _ (List.mem_append_right _ (List.mem_append_right _ (List.mem_append_right _ (List.mem_append_left _ h)))))) gd_wsX11_mayBe
set_option maxRecDepth 20000 in
theorem gX11_spread_X11_mayBe : GoodIn wsX11_spread (wsV RX11 388 RX11 yX11_mayBe wsX11_mayBe) := goodIn_app (goodIn_r _ [8, 9, 10, 4] (by decide +kernel) (by decide +kernel)) ggX11_spread_X11_mayBe
theorem ggX11_spread_X11_oddsAt : GoodIn wsX11_spread wsX11_oddsAt := gi_sub (fun w h => List.mem_cons_of_mem _ (List.mem_append_left _ (List.mem_append_right _ (List.mem_append_right _ (List.mem_append_right _ (List.mem_append_right _ h)))))) gd_wsX11_oddsAt
set_option maxRecDepth 20000 in
theorem gX11_spread_X11_oddsAt : GoodIn wsX11_spread (wsV RX11 297 RX11 yX11_oddsAt wsX11_oddsAt) := goodIn_app (goodIn_r _ [11, 12, 13, 4] (by decide +kernel) (by decide +kernel)) ggX11_spread_X11_oddsAt
theorem dX11_spread_0 : decode cX11_spread 0 = .ok (.aload_n 0, 1) := dc1_42 (by decide +kernel)
theorem dX11_spread_1 : decode cX11_spread 1 = .ok (.iload_n 1, 1) := dc1_27 (by decide +kernel)
theorem dX11_spread_2 : decode cX11_spread 2 = .ok (.invokevirtual 349, 3) := dcw_182 (by decide +kernel)
theorem dX11_spread_5 : decode cX11_spread 5 = .ok (.ifCond .ne 5, 3) := dcs_154 (n := 5) (by decide +kernel)
theorem dX11_spread_8 : decode cX11_spread 8 = .ok (.iconst (-1), 1) := dc1_2 (by decide +kernel)
theorem dX11_spread_9 : decode cX11_spread 9 = .ok (.ireturn, 1) := dc1_172 (by decide +kernel)
theorem dX11_spread_10 : decode cX11_spread 10 = .ok (.aload_n 0, 1) := dc1_42 (by decide +kernel)
theorem dX11_spread_11 : decode cX11_spread 11 = .ok (.invokevirtual 352, 3) := dcw_182 (by decide +kernel)
theorem dX11_spread_14 : decode cX11_spread 14 = .ok (.iconst 0, 1) := dc1_3 (by decide +kernel)
theorem dX11_spread_15 : decode cX11_spread 15 = .ok (.istore_n 2, 1) := dc1_61 (by decide +kernel)
theorem dX11_spread_16 : decode cX11_spread 16 = .ok (.bipush 10, 2) := dcb_16 (n := 10) (by decide +kernel)
theorem dX11_spread_18 : decode cX11_spread 18 = .ok (.istore_n 3, 1) := dc1_62 (by decide +kernel)
theorem dX11_spread_19 : decode cX11_spread 19 = .ok (.iconst 0, 1) := dc1_3 (by decide +kernel)
theorem dX11_spread_20 : decode cX11_spread 20 = .ok (.istore 4, 2) := dcu_54 (by decide +kernel)
theorem dX11_spread_22 : decode cX11_spread 22 = .ok (.iload 4, 2) := dcu_21 (by decide +kernel)
theorem dX11_spread_24 : decode cX11_spread 24 = .ok (.bipush 6, 2) := dcb_16 (n := 6) (by decide +kernel)
theorem dX11_spread_26 : decode cX11_spread 26 = .ok (.if_icmp .ge 60, 3) := dcs_162 (n := 60) (by decide +kernel)
theorem dX11_spread_29 : decode cX11_spread 29 = .ok (.aload_n 0, 1) := dc1_42 (by decide +kernel)
theorem dX11_spread_30 : decode cX11_spread 30 = .ok (.iload_n 1, 1) := dc1_27 (by decide +kernel)
theorem dX11_spread_31 : decode cX11_spread 31 = .ok (.iload 4, 2) := dcu_21 (by decide +kernel)
theorem dX11_spread_33 : decode cX11_spread 33 = .ok (.invokevirtual 388, 3) := dcw_182 (by decide +kernel)
theorem dX11_spread_36 : decode cX11_spread 36 = .ok (.ifCond .ne 6, 3) := dcs_154 (n := 6) (by decide +kernel)
theorem dX11_spread_39 : decode cX11_spread 39 = .ok (.goto 41, 3) := dcs_167 (n := 41) (by decide +kernel)
theorem dX11_spread_42 : decode cX11_spread 42 = .ok (.aload_n 0, 1) := dc1_42 (by decide +kernel)
theorem dX11_spread_43 : decode cX11_spread 43 = .ok (.iload_n 1, 1) := dc1_27 (by decide +kernel)
theorem dX11_spread_44 : decode cX11_spread 44 = .ok (.iload 4, 2) := dcu_21 (by decide +kernel)
theorem dX11_spread_46 : decode cX11_spread 46 = .ok (.invokevirtual 297, 3) := dcw_182 (by decide +kernel)
theorem dX11_spread_49 : decode cX11_spread 49 = .ok (.iload_n 2, 1) := dc1_28 (by decide +kernel)
theorem dX11_spread_50 : decode cX11_spread 50 = .ok (.if_icmp .le 11, 3) := dcs_164 (n := 11) (by decide +kernel)
theorem dX11_spread_53 : decode cX11_spread 53 = .ok (.aload_n 0, 1) := dc1_42 (by decide +kernel)
theorem dX11_spread_54 : decode cX11_spread 54 = .ok (.iload_n 1, 1) := dc1_27 (by decide +kernel)
theorem dX11_spread_55 : decode cX11_spread 55 = .ok (.iload 4, 2) := dcu_21 (by decide +kernel)
theorem dX11_spread_57 : decode cX11_spread 57 = .ok (.invokevirtual 297, 3) := dcw_182 (by decide +kernel)
theorem dX11_spread_60 : decode cX11_spread 60 = .ok (.istore_n 2, 1) := dc1_61 (by decide +kernel)
theorem dX11_spread_61 : decode cX11_spread 61 = .ok (.aload_n 0, 1) := dc1_42 (by decide +kernel)
theorem dX11_spread_62 : decode cX11_spread 62 = .ok (.iload_n 1, 1) := dc1_27 (by decide +kernel)
theorem dX11_spread_63 : decode cX11_spread 63 = .ok (.iload 4, 2) := dcu_21 (by decide +kernel)
theorem dX11_spread_65 : decode cX11_spread 65 = .ok (.invokevirtual 297, 3) := dcw_182 (by decide +kernel)
theorem dX11_spread_68 : decode cX11_spread 68 = .ok (.iload_n 3, 1) := dc1_29 (by decide +kernel)
theorem dX11_spread_69 : decode cX11_spread 69 = .ok (.if_icmp .ge 11, 3) := dcs_162 (n := 11) (by decide +kernel)
theorem dX11_spread_72 : decode cX11_spread 72 = .ok (.aload_n 0, 1) := dc1_42 (by decide +kernel)
theorem dX11_spread_73 : decode cX11_spread 73 = .ok (.iload_n 1, 1) := dc1_27 (by decide +kernel)
theorem dX11_spread_74 : decode cX11_spread 74 = .ok (.iload 4, 2) := dcu_21 (by decide +kernel)
theorem dX11_spread_76 : decode cX11_spread 76 = .ok (.invokevirtual 297, 3) := dcw_182 (by decide +kernel)
theorem dX11_spread_79 : decode cX11_spread 79 = .ok (.istore_n 3, 1) := dc1_62 (by decide +kernel)
theorem dX11_spread_80 : decode cX11_spread 80 = .ok (.iinc 4 1, 3) := dc_iinc (m := 1) (by decide +kernel)
theorem dX11_spread_83 : decode cX11_spread 83 = .ok (.goto (-61), 3) := dcs_167 (n := 65475) (by decide +kernel)
theorem dX11_spread_86 : decode cX11_spread 86 = .ok (.iload_n 2, 1) := dc1_28 (by decide +kernel)
theorem dX11_spread_87 : decode cX11_spread 87 = .ok (.iload_n 3, 1) := dc1_29 (by decide +kernel)
theorem dX11_spread_88 : decode cX11_spread 88 = .ok (.if_icmp .ge 7, 3) := dcs_162 (n := 7) (by decide +kernel)
theorem dX11_spread_91 : decode cX11_spread 91 = .ok (.iconst 0, 1) := dc1_3 (by decide +kernel)
theorem dX11_spread_92 : decode cX11_spread 92 = .ok (.goto 6, 3) := dcs_167 (n := 6) (by decide +kernel)
theorem dX11_spread_95 : decode cX11_spread 95 = .ok (.iload_n 2, 1) := dc1_28 (by decide +kernel)
theorem dX11_spread_96 : decode cX11_spread 96 = .ok (.iload_n 3, 1) := dc1_29 (by decide +kernel)
theorem dX11_spread_97 : decode cX11_spread 97 = .ok (.isub, 1) := dc1_100 (by decide +kernel)
theorem dX11_spread_98 : decode cX11_spread 98 = .ok (.ireturn, 1) := dc1_172 (by decide +kernel)
theorem ggX11_dearest_X11_in : GoodIn wsX11_dearest wsX11_in := gi_sub (fun w h => List.mem_cons_of_mem _ (List.mem_append_left _ (List.mem_append_right _ (List.mem_append_left _ h)))) gd_wsX11_in
set_option maxRecDepth 20000 in
theorem gX11_dearest_X11_in : GoodIn wsX11_dearest (va_wsS RX11 281 yX11_in wsX11_in) := goodIn_app (goodIn_of _ (by decide +kernel)) ggX11_dearest_X11_in
theorem ggX11_dearest_X11_copies : GoodIn wsX11_dearest wsX11_copies := gi_sub (fun w h => List.mem_cons_of_mem _ (List.mem_append_left _ (List.mem_append_right _ (List.mem_append_right _ (List.mem_append_left _ h))))) gd_wsX11_copies
set_option maxRecDepth 20000 in
theorem gX11_dearest_X11_copies : GoodIn wsX11_dearest (wsV RX11 352 RX11 yX11_copies wsX11_copies) := goodIn_app (goodIn_r _ [6, 7, 8, 5] (by decide +kernel) (by decide +kernel)) ggX11_dearest_X11_copies
theorem ggX11_dearest_X11_faresOf : GoodIn wsX11_dearest wsX11_faresOf := gi_sub (fun w h => List.mem_cons_of_mem _ (List.mem_append_left _ (List.mem_append_right _ (List.mem_append_right _ (List.mem_append_right _ h))))) gd_wsX11_faresOf
set_option maxRecDepth 20000 in
theorem gX11_dearest_X11_faresOf : GoodIn wsX11_dearest (wsV RX11 339 RX11 yX11_faresOf wsX11_faresOf) := goodIn_app (goodIn_r _ [9, 10, 11, 5] (by decide +kernel) (by decide +kernel)) ggX11_dearest_X11_faresOf
theorem dX11_dearest_0 : decode cX11_dearest 0 = .ok (.iload_n 1, 1) := dc1_27 (by decide +kernel)
theorem dX11_dearest_1 : decode cX11_dearest 1 = .ok (.iconst 0, 1) := dc1_3 (by decide +kernel)
theorem dX11_dearest_2 : decode cX11_dearest 2 = .ok (.iconst 1, 1) := dc1_4 (by decide +kernel)
theorem dX11_dearest_3 : decode cX11_dearest 3 = .ok (.invokestatic 281, 3) := dcw_184 (by decide +kernel)
theorem dX11_dearest_6 : decode cX11_dearest 6 = .ok (.ifCond .ne 5, 3) := dcs_154 (n := 5) (by decide +kernel)
theorem dX11_dearest_9 : decode cX11_dearest 9 = .ok (.iconst (-1), 1) := dc1_2 (by decide +kernel)
theorem dX11_dearest_10 : decode cX11_dearest 10 = .ok (.ireturn, 1) := dc1_172 (by decide +kernel)
theorem dX11_dearest_11 : decode cX11_dearest 11 = .ok (.aload_n 0, 1) := dc1_42 (by decide +kernel)
theorem dX11_dearest_12 : decode cX11_dearest 12 = .ok (.invokevirtual 352, 3) := dcw_182 (by decide +kernel)
theorem dX11_dearest_15 : decode cX11_dearest 15 = .ok (.bipush (-2), 2) := dcb_16 (n := 254) (by decide +kernel)
theorem dX11_dearest_17 : decode cX11_dearest 17 = .ok (.istore_n 2, 1) := dc1_61 (by decide +kernel)
theorem dX11_dearest_18 : decode cX11_dearest 18 = .ok (.iconst 0, 1) := dc1_3 (by decide +kernel)
theorem dX11_dearest_19 : decode cX11_dearest 19 = .ok (.istore_n 3, 1) := dc1_62 (by decide +kernel)
theorem dX11_dearest_20 : decode cX11_dearest 20 = .ok (.iload_n 3, 1) := dc1_29 (by decide +kernel)
theorem dX11_dearest_21 : decode cX11_dearest 21 = .ok (.aload_n 0, 1) := dc1_42 (by decide +kernel)
theorem dX11_dearest_22 : decode cX11_dearest 22 = .ok (.getfield 49, 3) := dcw_180 (by decide +kernel)
theorem dX11_dearest_25 : decode cX11_dearest 25 = .ok (.aload_n 0, 1) := dc1_42 (by decide +kernel)
theorem dX11_dearest_26 : decode cX11_dearest 26 = .ok (.getfield 215, 3) := dcw_180 (by decide +kernel)
theorem dX11_dearest_29 : decode cX11_dearest 29 = .ok (.iaload, 1) := dc1_46 (by decide +kernel)
theorem dX11_dearest_30 : decode cX11_dearest 30 = .ok (.if_icmp .ge 28, 3) := dcs_162 (n := 28) (by decide +kernel)
theorem dX11_dearest_33 : decode cX11_dearest 33 = .ok (.iload_n 2, 1) := dc1_28 (by decide +kernel)
theorem dX11_dearest_34 : decode cX11_dearest 34 = .ok (.ifCond .lt 16, 3) := dcs_155 (n := 16) (by decide +kernel)
theorem dX11_dearest_37 : decode cX11_dearest 37 = .ok (.aload_n 0, 1) := dc1_42 (by decide +kernel)
theorem dX11_dearest_38 : decode cX11_dearest 38 = .ok (.iload_n 3, 1) := dc1_29 (by decide +kernel)
theorem dX11_dearest_39 : decode cX11_dearest 39 = .ok (.invokevirtual 339, 3) := dcw_182 (by decide +kernel)
theorem dX11_dearest_42 : decode cX11_dearest 42 = .ok (.aload_n 0, 1) := dc1_42 (by decide +kernel)
theorem dX11_dearest_43 : decode cX11_dearest 43 = .ok (.iload_n 2, 1) := dc1_28 (by decide +kernel)
theorem dX11_dearest_44 : decode cX11_dearest 44 = .ok (.invokevirtual 339, 3) := dcw_182 (by decide +kernel)
theorem dX11_dearest_47 : decode cX11_dearest 47 = .ok (.if_icmp .le 5, 3) := dcs_164 (n := 5) (by decide +kernel)
theorem dX11_dearest_50 : decode cX11_dearest 50 = .ok (.iload_n 3, 1) := dc1_29 (by decide +kernel)
theorem dX11_dearest_51 : decode cX11_dearest 51 = .ok (.istore_n 2, 1) := dc1_61 (by decide +kernel)
theorem dX11_dearest_52 : decode cX11_dearest 52 = .ok (.iinc 3 1, 3) := dc_iinc (m := 1) (by decide +kernel)
theorem dX11_dearest_55 : decode cX11_dearest 55 = .ok (.goto (-35), 3) := dcs_167 (n := 65501) (by decide +kernel)
theorem dX11_dearest_58 : decode cX11_dearest 58 = .ok (.iload_n 2, 1) := dc1_28 (by decide +kernel)
theorem dX11_dearest_59 : decode cX11_dearest 59 = .ok (.ifCond .lt 7, 3) := dcs_155 (n := 7) (by decide +kernel)
theorem dX11_dearest_62 : decode cX11_dearest 62 = .ok (.iload_n 1, 1) := dc1_27 (by decide +kernel)
theorem dX11_dearest_63 : decode cX11_dearest 63 = .ok (.ifCond .ne 7, 3) := dcs_154 (n := 7) (by decide +kernel)
theorem dX11_dearest_66 : decode cX11_dearest 66 = .ok (.iload_n 2, 1) := dc1_28 (by decide +kernel)
theorem dX11_dearest_67 : decode cX11_dearest 67 = .ok (.goto 8, 3) := dcs_167 (n := 8) (by decide +kernel)
theorem dX11_dearest_70 : decode cX11_dearest 70 = .ok (.aload_n 0, 1) := dc1_42 (by decide +kernel)
theorem dX11_dearest_71 : decode cX11_dearest 71 = .ok (.iload_n 2, 1) := dc1_28 (by decide +kernel)
theorem dX11_dearest_72 : decode cX11_dearest 72 = .ok (.invokevirtual 339, 3) := dcw_182 (by decide +kernel)
theorem dX11_dearest_75 : decode cX11_dearest 75 = .ok (.ireturn, 1) := dc1_172 (by decide +kernel)
theorem LX11_sure_113 : Cond.fieldLink RX11 113 "GuessFerryModel" "chanceBy" "[I" ∈ wsX11_sure := (List.mem_cons_of_mem _ (List.mem_append_left _ (List.mem_append_left _ (List.mem_of_getElem? (i := 2) rfl))))
theorem LX11_sure_215 : Cond.fieldLink RX11 215 "GuessFerryModel" "live" "I" ∈ wsX11_sure := (List.mem_cons_of_mem _ (List.mem_append_left _ (List.mem_append_left _ (List.mem_of_getElem? (i := 1) rfl))))
theorem LX11_sure_40 : Cond.fieldLink RX11 40 "GuessFerryModel" "waves" "[I" ∈ wsX11_sure := (List.mem_cons_of_mem _ (List.mem_append_left _ (List.mem_append_left _ (List.mem_of_getElem? (i := 0) rfl))))
theorem inX11_sure_X11 : ∀ w ∈ u_ws RX11 TX11 58, w ∈ wsX11_sure := fun w h => (List.mem_cons_of_mem _ (List.mem_append_right _ h))
set_option maxHeartbeats 4000000 in
set_option maxRecDepth 100000 in
theorem br_sure_81 {l : Launch} {dC : Nat → ClassId} {dI : Nat → Nat → Nat} {cB cI cJ cZ cS : ClassId} {h : Nat} {a : Nat → Nat} {as : List Value} {r : Int32} {s' : RS} {k41 : RS → Int32 → Int32 → Int32 → Int32 → Option (Int32 × RS)} (hk41 : ∀ (s : RS) (x1 : Int32) (x2 : Int32) (x3 : Int32) (x4 : Int32), k41 s x1 x2 x3 x4 = some (r, s') → BlkI l yX11_sure wsX11_sure ({ frames := 8, cells := 0, slots := 0, locals := 186 }) cX11_sure 5 (some .int) (dC, dI) (tysA cB cI cJ cZ cS) as 41 (mwS cB cI cJ cZ h a s) [(0, .ref h), (1, .int x1), (2, .int x2), (3, .int x3), (4, .int x4)] [] (fun x u => x = r ∧ u = (mwS cB cI cJ cZ h a s'))) (s : RS) (x1 : Int32) (x2 : Int32) (x3 : Int32) (x4 : Int32) (hB : r_sure_81 k41 s x1 x2 x3 x4 = some (r, s')) : BlkI l yX11_sure wsX11_sure ({ frames := 8, cells := 0, slots := 0, locals := 186 }) cX11_sure 5 (some .int) (dC, dI) (tysA cB cI cJ cZ cS) as 81 (mwS cB cI cJ cZ h a s) [(0, .ref h), (1, .int x1), (2, .int x2), (3, .int x3), (4, .int x4)] [] (fun x u => x = r ∧ u = (mwS cB cI cJ cZ h a s')) := by
  intro p e s0 m below meth c A E H locs ls hP hD hS hl
  obtain ⟨C, hr, hlocks, hA, hK, hN⟩ := id E
  obtain ⟨hx, hb, hml, hown, hts⟩ := id C
  unfold r_sure_81 at hB
  refine lv_iinc (v := (x4 + 1)) (lv' := [(4, .int (x4 + 1)), (0, .ref h), (1, .int x1), (2, .int x2), (3, .int x3)]) hx hb dX11_sure_81 hl (k := 4) rfl (rfl) (by decide) rfl (fun ls hl => ?_)
  refine lv_goto (tgt := 41) hx hb dX11_sure_84 (by decide) ?_
  exact hk41 _ _ _ _ _ hB p e s0 m below meth c A E H locs ls hP hD hS (lv_sub hl [1, 2, 3, 4, 0] rfl)
set_option maxHeartbeats 4000000 in
set_option maxRecDepth 100000 in
theorem br_sure_41 {l : Launch} {dC : Nat → ClassId} {dI : Nat → Nat → Nat} {cB cI cJ cZ cS : ClassId} {h : Nat} {a : Nat → Nat} {as : List Value} {r : Int32} {s' : RS} {k41 : RS → Int32 → Int32 → Int32 → Int32 → Option (Int32 × RS)} (hk41 : ∀ (s : RS) (x1 : Int32) (x2 : Int32) (x3 : Int32) (x4 : Int32), k41 s x1 x2 x3 x4 = some (r, s') → BlkI l yX11_sure wsX11_sure ({ frames := 8, cells := 0, slots := 0, locals := 186 }) cX11_sure 5 (some .int) (dC, dI) (tysA cB cI cJ cZ cS) as 41 (mwS cB cI cJ cZ h a s) [(0, .ref h), (1, .int x1), (2, .int x2), (3, .int x3), (4, .int x4)] [] (fun x u => x = r ∧ u = (mwS cB cI cJ cZ h a s'))) (s : RS) (x1 : Int32) (x2 : Int32) (x3 : Int32) (x4 : Int32) (hB : r_sure_41 k41 s x1 x2 x3 x4 = some (r, s')) : BlkI l yX11_sure wsX11_sure ({ frames := 8, cells := 0, slots := 0, locals := 186 }) cX11_sure 5 (some .int) (dC, dI) (tysA cB cI cJ cZ cS) as 41 (mwS cB cI cJ cZ h a s) [(0, .ref h), (1, .int x1), (2, .int x2), (3, .int x3), (4, .int x4)] [] (fun x u => x = r ∧ u = (mwS cB cI cJ cZ h a s')) := by
  intro p e s0 m below meth c A E H locs ls hP hD hS hl
  obtain ⟨C, hr, hlocks, hA, hK, hN⟩ := id E
  obtain ⟨hx, hb, hml, hown, hts⟩ := id C
  unfold r_sure_41 at hB
  refine lv_iload hx hb dX11_sure_41 (lv_at hl 4 rfl) ?_
  refine lv_aload_n hx hb dX11_sure_43 rfl (lv_at hl 0 rfl) ?_
  obtain ⟨q_, s1, hc, hB⟩ := bindI_inv hB
  refine q_goiF (va_runV (As := []) (rest := [.int x4]) C (cr_guesses hc _) (cwV 0 hts gX11_sure_X11_guesses rfl rfl rfl (by decide +kernel) ⟨Nat.le_of_ble_eq_true rfl, Nat.le_of_ble_eq_true rfl⟩) (q_preV hK hP (ci := 11) (q0 := 0) rfl rfl rfl (q_preF hN hK hP hD)) rfl rfl hl.1 rfl (lv_room (Nat.le_of_ble_eq_true rfl)) dX11_sure_44 ⟨Nat.le_of_ble_eq_true rfl, Nat.le_of_ble_eq_true rfl⟩) hD hS hA (fun r2 w1 H locs hw hP hD hS => ?_)
  obtain ⟨hq_, hw⟩ := hw; subst hw; subst hq_
  refine lv_icmp_ge (tgt := 87) hx hb dX11_sure_47 (by decide) (fun c3 => ?_) (fun c3 => ?_)
  · have hB := if_p hB c3
    refine lv_iload_n hx hb dX11_sure_87 rfl (lv_at hl 3 rfl) ?_
    exact q_iret C hr hlocks hK hP hD hS (Nat.le_of_ble_eq_true rfl) (Nat.le_of_ble_eq_true rfl) dX11_sure_88 (by cases hB; exact ⟨rfl, rfl⟩)
  · have hB := if_n hB c3
    refine lv_aload_n hx hb dX11_sure_50 rfl (lv_at hl 0 rfl) ?_
    refine q_get (v := .ref (a 50)) C inX11_sure_X11 hK hP 0 rfl rfl 50 (by decide) rfl LX11_sure_113 rfl dX11_sure_51 ?_
    refine lv_iload hx hb dX11_sure_54 (lv_at hl 4 rfl) ?_
    obtain ⟨g4, hB⟩ := guard_inv hB
    refine q_iald (x := (s1.f 50 (Int32.toNatClampNeg x4))) C hK hP 32 1 rfl rfl (vpb_in g4) dX11_sure_56 rfl ?_
    refine lv_if_le (tgt := 81) hx hb dX11_sure_57 (by decide) (fun c5 => ?_) (fun c5 => ?_)
    · have hB := if_p hB c5
      exact br_sure_81 (hk41) _ _ _ _ _ hB p e s0 m below meth c A E H locs ls hP hD hS (lv_sub hl [0, 1, 2, 3, 4] rfl)
    · have hB := if_n hB c5
      refine lv_aload_n hx hb dX11_sure_60 rfl (lv_at hl 0 rfl) ?_
      refine lv_iload_n hx hb dX11_sure_61 rfl (lv_at hl 1 rfl) ?_
      refine lv_iload hx hb dX11_sure_62 (lv_at hl 4 rfl) ?_
      refine lv_iload_n hx hb dX11_sure_64 rfl (lv_at hl 2 rfl) ?_
      obtain ⟨q_, s6, hc, hB⟩ := bindI_inv hB
      refine q_goiF (va_runV (As := [.int x1, .int x4, .int x2]) (rest := []) C (cr_comesOver hc _) (cwV 3 hts gX11_sure_X11_comesOver rfl rfl rfl (by decide +kernel) ⟨Nat.le_of_ble_eq_true rfl, Nat.le_of_ble_eq_true rfl⟩) (q_preV hK hP (ci := 11) (q0 := 0) rfl rfl rfl (q_preF hN hK hP hD)) rfl rfl hl.1 rfl (lv_room (Nat.le_of_ble_eq_true rfl)) dX11_sure_65 ⟨Nat.le_of_ble_eq_true rfl, Nat.le_of_ble_eq_true rfl⟩) hD hS hA (fun r7 w1 H locs hw hP hD hS => ?_)
      obtain ⟨hq_, hw⟩ := hw; subst hw; subst hq_
      refine lv_if_eq (tgt := 81) hx hb dX11_sure_68 (by decide) (fun c8 => ?_) (fun c8 => ?_)
      · have hB := if_p hB c8
        exact br_sure_81 (hk41) _ _ _ _ _ hB p e s0 m below meth c A E H locs ls hP hD hS (lv_sub hl [0, 1, 2, 3, 4] rfl)
      · have hB := if_n hB c8
        refine lv_iload_n hx hb dX11_sure_71 rfl (lv_at hl 3 rfl) ?_
        refine lv_aload_n hx hb dX11_sure_72 rfl (lv_at hl 0 rfl) ?_
        refine q_get (v := .ref (a 50)) C inX11_sure_X11 hK hP 0 rfl rfl 50 (by decide) rfl LX11_sure_113 rfl dX11_sure_73 ?_
        refine lv_iload hx hb dX11_sure_76 (lv_at hl 4 rfl) ?_
        obtain ⟨g9, hB⟩ := guard_inv hB
        refine q_iald (x := (s6.f 50 (Int32.toNatClampNeg x4))) C hK hP 32 1 rfl rfl (vpb_in g9) dX11_sure_78 rfl ?_
        refine lv_iadd hx hb dX11_sure_79 ?_
        refine lv_istore_n (lv' := [(3, .int (x3 + (s6.f 50 (Int32.toNatClampNeg x4)))), (0, .ref h), (1, .int x1), (2, .int x2), (4, .int x4)]) hx hb dX11_sure_80 rfl hl (by decide) rfl (fun ls hl => ?_)
        exact br_sure_81 (hk41) _ _ _ _ _ hB p e s0 m below meth c A E H locs ls hP hD hS (lv_sub hl [1, 2, 3, 0, 4] rfl)
theorem br_sure_41L {l : Launch} {dC : Nat → ClassId} {dI : Nat → Nat → Nat} {cB cI cJ cZ cS : ClassId} {h : Nat} {a : Nat → Nat} {as : List Value} {r : Int32} {s' : RS} : ∀ (n : Nat) (s : RS) (x1 : Int32) (x2 : Int32) (x3 : Int32) (x4 : Int32), r_sure_41L n s x1 x2 x3 x4 = some (r, s') → BlkI l yX11_sure wsX11_sure ({ frames := 8, cells := 0, slots := 0, locals := 186 }) cX11_sure 5 (some .int) (dC, dI) (tysA cB cI cJ cZ cS) as 41 (mwS cB cI cJ cZ h a s) [(0, .ref h), (1, .int x1), (2, .int x2), (3, .int x3), (4, .int x4)] [] (fun x u => x = r ∧ u = (mwS cB cI cJ cZ h a s')) := by
  intro n
  induction n with
  | zero => intro s x1 x2 x3 x4 hB; exact none_ne hB
  | succ n ih => intro s x1 x2 x3 x4 hB; exact br_sure_41 ih _ _ _ _ _ hB
set_option maxHeartbeats 4000000 in
set_option maxRecDepth 100000 in
theorem br_sure {l : Launch} {dC : Nat → ClassId} {dI : Nat → Nat → Nat} {cB cI cJ cZ cS : ClassId} {h : Nat} {a : Nat → Nat} {as : List Value} {r : Int32} {s' : RS} (s : RS) (x1 : Int32) (x2 : Int32) (hB : r_sure s x1 x2 = some (r, s')) : BlkI l yX11_sure wsX11_sure ({ frames := 8, cells := 0, slots := 0, locals := 186 }) cX11_sure 5 (some .int) (dC, dI) (tysA cB cI cJ cZ cS) as 0 (mwS cB cI cJ cZ h a s) [(0, .ref h), (1, .int x1), (2, .int x2)] [] (fun x u => x = r ∧ u = (mwS cB cI cJ cZ h a s')) := by
  intro p e s0 m below meth c A E H locs ls hP hD hS hl
  obtain ⟨C, hr, hlocks, hA, hK, hN⟩ := id E
  obtain ⟨hx, hb, hml, hown, hts⟩ := id C
  unfold r_sure at hB
  refine lv_aload_n hx hb dX11_sure_0 rfl (lv_at hl 0 rfl) ?_
  refine lv_iload_n hx hb dX11_sure_1 rfl (lv_at hl 1 rfl) ?_
  obtain ⟨q_, s1, hc, hB⟩ := bindI_inv hB
  refine q_goiF (va_runV (As := [.int x1]) (rest := []) C (cr_isHere hc _) (cwV 1 hts gX11_sure_X11_isHere rfl rfl rfl (by decide +kernel) ⟨Nat.le_of_ble_eq_true rfl, Nat.le_of_ble_eq_true rfl⟩) (q_preV hK hP (ci := 11) (q0 := 0) rfl rfl rfl (q_preF hN hK hP hD)) rfl rfl hl.1 rfl (lv_room (Nat.le_of_ble_eq_true rfl)) dX11_sure_2 ⟨Nat.le_of_ble_eq_true rfl, Nat.le_of_ble_eq_true rfl⟩) hD hS hA (fun r2 w1 H locs hw hP hD hS => ?_)
  obtain ⟨hq_, hw⟩ := hw; subst hw; subst hq_
  refine lv_if_eq (tgt := 30) hx hb dX11_sure_5 (by decide) (fun c3 => ?_) (fun c3 => ?_)
  · have hB := if_p hB c3
    refine lv_iconst (v := (-1)) hx hb dX11_sure_30 (by decide) ?_
    exact q_iret C hr hlocks hK hP hD hS (Nat.le_of_ble_eq_true rfl) (Nat.le_of_ble_eq_true rfl) dX11_sure_31 (by cases hB; exact ⟨rfl, rfl⟩)
  · have hB := if_n hB c3
    refine lv_aload_n hx hb dX11_sure_8 rfl (lv_at hl 0 rfl) ?_
    refine q_get (v := .ref (a 20)) C inX11_sure_X11 hK hP 0 rfl rfl 20 (by decide) rfl LX11_sure_40 rfl dX11_sure_9 ?_
    refine lv_aload_n hx hb dX11_sure_12 rfl (lv_at hl 0 rfl) ?_
    refine q_get (v := .int (s1.v 18)) C inX11_sure_X11 hK hP 0 rfl rfl 18 (by decide) rfl LX11_sure_215 rfl dX11_sure_13 ?_
    obtain ⟨g4, hB⟩ := guard_inv hB
    refine q_iald (x := (s1.f 20 (Int32.toNatClampNeg (s1.v 18)))) C hK hP 8 1 rfl rfl (vpb_in g4) dX11_sure_16 rfl ?_
    refine lv_if_eq (tgt := 30) hx hb dX11_sure_17 (by decide) (fun c5 => ?_) (fun c5 => ?_)
    · have hB := if_p hB c5
      refine lv_iconst (v := (-1)) hx hb dX11_sure_30 (by decide) ?_
      exact q_iret C hr hlocks hK hP hD hS (Nat.le_of_ble_eq_true rfl) (Nat.le_of_ble_eq_true rfl) dX11_sure_31 (by cases hB; exact ⟨rfl, rfl⟩)
    · have hB := if_n hB c5
      refine lv_iload_n hx hb dX11_sure_20 rfl (lv_at hl 2 rfl) ?_
      refine lv_iconst (v := 1) hx hb dX11_sure_21 (by decide) ?_
      refine lv_bipush (v := 8) hx hb dX11_sure_22 (by decide) ?_
      obtain ⟨q_, hc, hB⟩ := bindP_inv hB
      refine q_goi0 (va_runS (As := [.int x2, .int 1, .int 8]) (rest := []) C (cr_in hc _) (va_cwS 3 hts gX11_sure_X11_in rfl rfl rfl (by decide +kernel) ⟨Nat.le_of_ble_eq_true rfl, Nat.le_of_ble_eq_true rfl⟩) (q_pre0 hN hK) rfl rfl hl.1 rfl (lv_room (Nat.le_of_ble_eq_true rfl)) dX11_sure_24 ⟨Nat.le_of_ble_eq_true rfl, Nat.le_of_ble_eq_true rfl⟩) hP hD hS hA (fun r6 w1 H locs hw hP hS => ?_)
      subst hw
      refine lv_if_ne (tgt := 32) hx hb dX11_sure_27 (by decide) (fun c7 => ?_) (fun c7 => ?_)
      · have hB := if_n hB c7
        refine lv_aload_n hx hb dX11_sure_32 rfl (lv_at hl 0 rfl) ?_
        obtain ⟨s8, hc, hB⟩ := bindP_inv hB
        refine q_govF (va_runV (As := []) (rest := []) C (cr_fillsChances hc _) (cwV 0 hts gX11_sure_X11_fillsChances rfl rfl rfl (by decide +kernel) ⟨Nat.le_of_ble_eq_true rfl, Nat.le_of_ble_eq_true rfl⟩) (q_preV hK hP (ci := 11) (q0 := 0) rfl rfl rfl (q_preF hN hK hP hD)) rfl rfl hl.1 rfl (lv_room (Nat.le_of_ble_eq_true rfl)) dX11_sure_33 ⟨Nat.le_of_ble_eq_true rfl, Nat.le_of_ble_eq_true rfl⟩) hD hS hA (fun w1 H locs hw hP hD hS => ?_)
        subst hw
        refine lv_iconst (v := 0) hx hb dX11_sure_36 (by decide) ?_
        refine lv_istore_n (lv' := [(3, .int 0), (0, .ref h), (1, .int x1), (2, .int x2)]) hx hb dX11_sure_37 rfl hl (by decide) rfl (fun ls hl => ?_)
        refine lv_iconst (v := 0) hx hb dX11_sure_38 (by decide) ?_
        refine lv_istore (lv' := [(4, .int 0), (3, .int 0), (0, .ref h), (1, .int x1), (2, .int x2)]) hx hb dX11_sure_39 hl (by decide) rfl (fun ls hl => ?_)
        exact br_sure_41L fu _ _ _ _ _ hB p e s0 m below meth c A E H locs ls hP hD hS (lv_sub hl [2, 3, 4, 1, 0] rfl)
      · have hB := if_p hB c7
        refine lv_iconst (v := (-1)) hx hb dX11_sure_30 (by decide) ?_
        exact q_iret C hr hlocks hK hP hD hS (Nat.le_of_ble_eq_true rfl) (Nat.le_of_ble_eq_true rfl) dX11_sure_31 (by cases hB; exact ⟨rfl, rfl⟩)
theorem cr_sure {l : Launch} {dC : Nat → ClassId} {dI : Nat → Nat → Nat} {cB cI cJ cZ cS : ClassId} {h : Nat} {a : Nat → Nat} {r : Int32} {s' : RS} {s : RS} {x1 : Int32} {x2 : Int32} (hB : r_sure s x1 x2 = some (r, s')) : CI l yX11_sure wsX11_sure ({ frames := 8, cells := 0, slots := 0, locals := 186 }) (dC, dI) (tysA cB cI cJ cZ cS) (mwS cB cI cJ cZ h a s) [.ref h, .int x1, .int x2] (fun x u => x = r ∧ u = (mwS cB cI cJ cZ h a s')) :=
  CI_of (cc := cX11_sure) (maxL := 5) (ret := (some .int)) (by decide) rfl (Nat.le_of_ble_eq_true rfl) (br_sure _ _ _ hB)
theorem LX11_alike_215 : Cond.fieldLink RX11 215 "GuessFerryModel" "live" "I" ∈ wsX11_alike := (List.mem_cons_of_mem _ (List.mem_append_left _ (List.mem_append_left _ (List.mem_of_getElem? (i := 1) rfl))))
theorem LX11_alike_40 : Cond.fieldLink RX11 40 "GuessFerryModel" "waves" "[I" ∈ wsX11_alike := (List.mem_cons_of_mem _ (List.mem_append_left _ (List.mem_append_left _ (List.mem_of_getElem? (i := 0) rfl))))
theorem inX11_alike_X11 : ∀ w ∈ u_ws RX11 TX11 58, w ∈ wsX11_alike := fun w h => (List.mem_cons_of_mem _ (List.mem_append_right _ h))
set_option maxHeartbeats 4000000 in
set_option maxRecDepth 100000 in
theorem br_alike_20 {l : Launch} {dC : Nat → ClassId} {dI : Nat → Nat → Nat} {cB cI cJ cZ cS : ClassId} {h : Nat} {a : Nat → Nat} {as : List Value} {r : Int32} {s' : RS} {k20 : RS → Int32 → Int32 → Int32 → Option (Int32 × RS)} (hk20 : ∀ (s : RS) (x1 : Int32) (x2 : Int32) (x3 : Int32), k20 s x1 x2 x3 = some (r, s') → BlkI l yX11_alike wsX11_alike ({ frames := 2, cells := 0, slots := 0, locals := 43 }) cX11_alike 4 (some .int) (dC, dI) (tysA cB cI cJ cZ cS) as 20 (mwS cB cI cJ cZ h a s) [(0, .ref h), (1, .int x1), (2, .int x2), (3, .int x3)] [] (fun x u => x = r ∧ u = (mwS cB cI cJ cZ h a s'))) (s : RS) (x1 : Int32) (x2 : Int32) (x3 : Int32) (hB : r_alike_20 k20 s x1 x2 x3 = some (r, s')) : BlkI l yX11_alike wsX11_alike ({ frames := 2, cells := 0, slots := 0, locals := 43 }) cX11_alike 4 (some .int) (dC, dI) (tysA cB cI cJ cZ cS) as 20 (mwS cB cI cJ cZ h a s) [(0, .ref h), (1, .int x1), (2, .int x2), (3, .int x3)] [] (fun x u => x = r ∧ u = (mwS cB cI cJ cZ h a s')) := by
  intro p e s0 m below meth c A E H locs ls hP hD hS hl
  obtain ⟨C, hr, hlocks, hA, hK, hN⟩ := id E
  obtain ⟨hx, hb, hml, hown, hts⟩ := id C
  unfold r_alike_20 at hB
  refine lv_iload_n hx hb dX11_alike_20 rfl (lv_at hl 3 rfl) ?_
  refine lv_aload_n hx hb dX11_alike_21 rfl (lv_at hl 0 rfl) ?_
  refine q_get (v := .ref (a 20)) C inX11_alike_X11 hK hP 0 rfl rfl 20 (by decide) rfl LX11_alike_40 rfl dX11_alike_22 ?_
  refine lv_aload_n hx hb dX11_alike_25 rfl (lv_at hl 0 rfl) ?_
  refine q_get (v := .int (s.v 18)) C inX11_alike_X11 hK hP 0 rfl rfl 18 (by decide) rfl LX11_alike_215 rfl dX11_alike_26 ?_
  obtain ⟨g1, hB⟩ := guard_inv hB
  refine q_iald (x := (s.f 20 (Int32.toNatClampNeg (s.v 18)))) C hK hP 8 1 rfl rfl (vpb_in g1) dX11_alike_29 rfl ?_
  refine lv_icmp_ge (tgt := 54) hx hb dX11_alike_30 (by decide) (fun c2 => ?_) (fun c2 => ?_)
  · have hB := if_p hB c2
    refine lv_iload_n hx hb dX11_alike_54 rfl (lv_at hl 3 rfl) ?_
    exact q_iret C hr hlocks hK hP hD hS (Nat.le_of_ble_eq_true rfl) (Nat.le_of_ble_eq_true rfl) dX11_alike_55 (by cases hB; exact ⟨rfl, rfl⟩)
  · have hB := if_n hB c2
    refine lv_aload_n hx hb dX11_alike_33 rfl (lv_at hl 0 rfl) ?_
    refine lv_iload_n hx hb dX11_alike_34 rfl (lv_at hl 1 rfl) ?_
    refine lv_iload_n hx hb dX11_alike_35 rfl (lv_at hl 3 rfl) ?_
    obtain ⟨q_, s3, hc, hB⟩ := bindI_inv hB
    refine q_goiF (va_runV (As := [.int x1, .int x3]) (rest := []) C (cr_thingAt hc _) (cwV 2 hts gX11_alike_X11_thingAt rfl rfl rfl (by decide +kernel) ⟨Nat.le_of_ble_eq_true rfl, Nat.le_of_ble_eq_true rfl⟩) (q_preV hK hP (ci := 11) (q0 := 0) rfl rfl rfl (q_preF hN hK hP hD)) rfl rfl hl.1 rfl (lv_room (Nat.le_of_ble_eq_true rfl)) dX11_alike_36 ⟨Nat.le_of_ble_eq_true rfl, Nat.le_of_ble_eq_true rfl⟩) hD hS hA (fun r4 w1 H locs hw hP hD hS => ?_)
    obtain ⟨hq_, hw⟩ := hw; subst hw; subst hq_
    refine lv_aload_n hx hb dX11_alike_39 rfl (lv_at hl 0 rfl) ?_
    refine lv_iload_n hx hb dX11_alike_40 rfl (lv_at hl 2 rfl) ?_
    refine lv_iload_n hx hb dX11_alike_41 rfl (lv_at hl 3 rfl) ?_
    obtain ⟨q_, s5, hc, hB⟩ := bindI_inv hB
    refine q_goiF (va_runV (As := [.int x2, .int x3]) (rest := [.int r4]) C (cr_thingAt hc _) (cwV 2 hts gX11_alike_X11_thingAt rfl rfl rfl (by decide +kernel) ⟨Nat.le_of_ble_eq_true rfl, Nat.le_of_ble_eq_true rfl⟩) (q_preV hK hP (ci := 11) (q0 := 0) rfl rfl rfl (q_preF hN hK hP hD)) rfl rfl hl.1 rfl (lv_room (Nat.le_of_ble_eq_true rfl)) dX11_alike_42 ⟨Nat.le_of_ble_eq_true rfl, Nat.le_of_ble_eq_true rfl⟩) hD hS hA (fun r6 w1 H locs hw hP hD hS => ?_)
    obtain ⟨hq_, hw⟩ := hw; subst hw; subst hq_
    refine lv_icmp_ne (tgt := 54) hx hb dX11_alike_45 (by decide) (fun c7 => ?_) (fun c7 => ?_)
    · have hB := if_n hB c7
      refine lv_iload_n hx hb dX11_alike_54 rfl (lv_at hl 3 rfl) ?_
      exact q_iret C hr hlocks hK hP hD hS (Nat.le_of_ble_eq_true rfl) (Nat.le_of_ble_eq_true rfl) dX11_alike_55 (by cases hB; exact ⟨rfl, rfl⟩)
    · have hB := if_p hB c7
      refine lv_iinc (v := (x3 + 1)) (lv' := [(3, .int (x3 + 1)), (0, .ref h), (1, .int x1), (2, .int x2)]) hx hb dX11_alike_48 hl (k := 3) rfl (rfl) (by decide) rfl (fun ls hl => ?_)
      refine lv_goto (tgt := 20) hx hb dX11_alike_51 (by decide) ?_
      exact hk20 _ _ _ _ hB p e s0 m below meth c A E H locs ls hP hD hS (lv_sub hl [1, 2, 3, 0] rfl)
theorem br_alike_20L {l : Launch} {dC : Nat → ClassId} {dI : Nat → Nat → Nat} {cB cI cJ cZ cS : ClassId} {h : Nat} {a : Nat → Nat} {as : List Value} {r : Int32} {s' : RS} : ∀ (n : Nat) (s : RS) (x1 : Int32) (x2 : Int32) (x3 : Int32), r_alike_20L n s x1 x2 x3 = some (r, s') → BlkI l yX11_alike wsX11_alike ({ frames := 2, cells := 0, slots := 0, locals := 43 }) cX11_alike 4 (some .int) (dC, dI) (tysA cB cI cJ cZ cS) as 20 (mwS cB cI cJ cZ h a s) [(0, .ref h), (1, .int x1), (2, .int x2), (3, .int x3)] [] (fun x u => x = r ∧ u = (mwS cB cI cJ cZ h a s')) := by
  intro n
  induction n with
  | zero => intro s x1 x2 x3 hB; exact none_ne hB
  | succ n ih => intro s x1 x2 x3 hB; exact br_alike_20 ih _ _ _ _ hB
set_option maxHeartbeats 4000000 in
set_option maxRecDepth 100000 in
theorem br_alike {l : Launch} {dC : Nat → ClassId} {dI : Nat → Nat → Nat} {cB cI cJ cZ cS : ClassId} {h : Nat} {a : Nat → Nat} {as : List Value} {r : Int32} {s' : RS} (s : RS) (x1 : Int32) (x2 : Int32) (hB : r_alike s x1 x2 = some (r, s')) : BlkI l yX11_alike wsX11_alike ({ frames := 2, cells := 0, slots := 0, locals := 43 }) cX11_alike 4 (some .int) (dC, dI) (tysA cB cI cJ cZ cS) as 0 (mwS cB cI cJ cZ h a s) [(0, .ref h), (1, .int x1), (2, .int x2)] [] (fun x u => x = r ∧ u = (mwS cB cI cJ cZ h a s')) := by
  intro p e s0 m below meth c A E H locs ls hP hD hS hl
  obtain ⟨C, hr, hlocks, hA, hK, hN⟩ := id E
  obtain ⟨hx, hb, hml, hown, hts⟩ := id C
  unfold r_alike at hB
  refine lv_aload_n hx hb dX11_alike_0 rfl (lv_at hl 0 rfl) ?_
  refine lv_iload_n hx hb dX11_alike_1 rfl (lv_at hl 1 rfl) ?_
  obtain ⟨q_, s1, hc, hB⟩ := bindI_inv hB
  refine q_goiF (va_runV (As := [.int x1]) (rest := []) C (cr_isGuess hc _) (cwV 1 hts gX11_alike_X11_isGuess rfl rfl rfl (by decide +kernel) ⟨Nat.le_of_ble_eq_true rfl, Nat.le_of_ble_eq_true rfl⟩) (q_preV hK hP (ci := 11) (q0 := 0) rfl rfl rfl (q_preF hN hK hP hD)) rfl rfl hl.1 rfl (lv_room (Nat.le_of_ble_eq_true rfl)) dX11_alike_2 ⟨Nat.le_of_ble_eq_true rfl, Nat.le_of_ble_eq_true rfl⟩) hD hS hA (fun r2 w1 H locs hw hP hD hS => ?_)
  obtain ⟨hq_, hw⟩ := hw; subst hw; subst hq_
  refine lv_if_eq (tgt := 16) hx hb dX11_alike_5 (by decide) (fun c3 => ?_) (fun c3 => ?_)
  · have hB := if_p hB c3
    refine lv_iconst (v := (-1)) hx hb dX11_alike_16 (by decide) ?_
    exact q_iret C hr hlocks hK hP hD hS (Nat.le_of_ble_eq_true rfl) (Nat.le_of_ble_eq_true rfl) dX11_alike_17 (by cases hB; exact ⟨rfl, rfl⟩)
  · have hB := if_n hB c3
    refine lv_aload_n hx hb dX11_alike_8 rfl (lv_at hl 0 rfl) ?_
    refine lv_iload_n hx hb dX11_alike_9 rfl (lv_at hl 2 rfl) ?_
    obtain ⟨q_, s4, hc, hB⟩ := bindI_inv hB
    refine q_goiF (va_runV (As := [.int x2]) (rest := []) C (cr_isGuess hc _) (cwV 1 hts gX11_alike_X11_isGuess rfl rfl rfl (by decide +kernel) ⟨Nat.le_of_ble_eq_true rfl, Nat.le_of_ble_eq_true rfl⟩) (q_preV hK hP (ci := 11) (q0 := 0) rfl rfl rfl (q_preF hN hK hP hD)) rfl rfl hl.1 rfl (lv_room (Nat.le_of_ble_eq_true rfl)) dX11_alike_10 ⟨Nat.le_of_ble_eq_true rfl, Nat.le_of_ble_eq_true rfl⟩) hD hS hA (fun r5 w1 H locs hw hP hD hS => ?_)
    obtain ⟨hq_, hw⟩ := hw; subst hw; subst hq_
    refine lv_if_ne (tgt := 18) hx hb dX11_alike_13 (by decide) (fun c6 => ?_) (fun c6 => ?_)
    · have hB := if_n hB c6
      refine lv_iconst (v := 0) hx hb dX11_alike_18 (by decide) ?_
      refine lv_istore_n (lv' := [(3, .int 0), (0, .ref h), (1, .int x1), (2, .int x2)]) hx hb dX11_alike_19 rfl hl (by decide) rfl (fun ls hl => ?_)
      exact br_alike_20L fu _ _ _ _ hB p e s0 m below meth c A E H locs ls hP hD hS (lv_sub hl [1, 2, 3, 0] rfl)
    · have hB := if_p hB c6
      refine lv_iconst (v := (-1)) hx hb dX11_alike_16 (by decide) ?_
      exact q_iret C hr hlocks hK hP hD hS (Nat.le_of_ble_eq_true rfl) (Nat.le_of_ble_eq_true rfl) dX11_alike_17 (by cases hB; exact ⟨rfl, rfl⟩)
theorem cr_alike {l : Launch} {dC : Nat → ClassId} {dI : Nat → Nat → Nat} {cB cI cJ cZ cS : ClassId} {h : Nat} {a : Nat → Nat} {r : Int32} {s' : RS} {s : RS} {x1 : Int32} {x2 : Int32} (hB : r_alike s x1 x2 = some (r, s')) : CI l yX11_alike wsX11_alike ({ frames := 2, cells := 0, slots := 0, locals := 43 }) (dC, dI) (tysA cB cI cJ cZ cS) (mwS cB cI cJ cZ h a s) [.ref h, .int x1, .int x2] (fun x u => x = r ∧ u = (mwS cB cI cJ cZ h a s')) :=
  CI_of (cc := cX11_alike) (maxL := 4) (ret := (some .int)) (by decide) rfl (Nat.le_of_ble_eq_true rfl) (br_alike _ _ _ hB)
theorem LX11_sunk_215 : Cond.fieldLink RX11 215 "GuessFerryModel" "live" "I" ∈ wsX11_sunk := (List.mem_cons_of_mem _ (List.mem_append_left _ (List.mem_append_left _ (List.mem_of_getElem? (i := 1) rfl))))
theorem LX11_sunk_40 : Cond.fieldLink RX11 40 "GuessFerryModel" "waves" "[I" ∈ wsX11_sunk := (List.mem_cons_of_mem _ (List.mem_append_left _ (List.mem_append_left _ (List.mem_of_getElem? (i := 2) rfl))))
theorem LX11_sunk_49 : Cond.fieldLink RX11 49 "GuessFerryModel" "parties" "[I" ∈ wsX11_sunk := (List.mem_cons_of_mem _ (List.mem_append_left _ (List.mem_append_left _ (List.mem_of_getElem? (i := 0) rfl))))
theorem inX11_sunk_X11 : ∀ w ∈ u_ws RX11 TX11 58, w ∈ wsX11_sunk := fun w h => (List.mem_cons_of_mem _ (List.mem_append_right _ h))
set_option maxHeartbeats 4000000 in
set_option maxRecDepth 100000 in
theorem br_sunk_63 {l : Launch} {dC : Nat → ClassId} {dI : Nat → Nat → Nat} {cB cI cJ cZ cS : ClassId} {h : Nat} {a : Nat → Nat} {as : List Value} {r : Int32} {s' : RS} {k18 : RS → Int32 → Int32 → Int32 → Option (Int32 × RS)} (hk18 : ∀ (s : RS) (x1 : Int32) (x2 : Int32) (x3 : Int32), k18 s x1 x2 x3 = some (r, s') → BlkI l yX11_sunk wsX11_sunk ({ frames := 6, cells := 0, slots := 0, locals := 135 }) cX11_sunk 4 (some .int) (dC, dI) (tysA cB cI cJ cZ cS) as 18 (mwS cB cI cJ cZ h a s) [(0, .ref h), (1, .int x1), (2, .int x2), (3, .int x3)] [] (fun x u => x = r ∧ u = (mwS cB cI cJ cZ h a s'))) (s : RS) (x1 : Int32) (x2 : Int32) (x3 : Int32) (hB : r_sunk_63 k18 s x1 x2 x3 = some (r, s')) : BlkI l yX11_sunk wsX11_sunk ({ frames := 6, cells := 0, slots := 0, locals := 135 }) cX11_sunk 4 (some .int) (dC, dI) (tysA cB cI cJ cZ cS) as 63 (mwS cB cI cJ cZ h a s) [(0, .ref h), (1, .int x1), (2, .int x2), (3, .int x3)] [] (fun x u => x = r ∧ u = (mwS cB cI cJ cZ h a s')) := by
  intro p e s0 m below meth c A E H locs ls hP hD hS hl
  obtain ⟨C, hr, hlocks, hA, hK, hN⟩ := id E
  obtain ⟨hx, hb, hml, hown, hts⟩ := id C
  unfold r_sunk_63 at hB
  refine lv_iinc (v := (x3 + 1)) (lv' := [(3, .int (x3 + 1)), (0, .ref h), (1, .int x1), (2, .int x2)]) hx hb dX11_sunk_63 hl (k := 3) rfl (rfl) (by decide) rfl (fun ls hl => ?_)
  refine lv_goto (tgt := 18) hx hb dX11_sunk_66 (by decide) ?_
  exact hk18 _ _ _ _ hB p e s0 m below meth c A E H locs ls hP hD hS (lv_sub hl [1, 2, 3, 0] rfl)
set_option maxHeartbeats 4000000 in
set_option maxRecDepth 100000 in
theorem br_sunk_18 {l : Launch} {dC : Nat → ClassId} {dI : Nat → Nat → Nat} {cB cI cJ cZ cS : ClassId} {h : Nat} {a : Nat → Nat} {as : List Value} {r : Int32} {s' : RS} {k18 : RS → Int32 → Int32 → Int32 → Option (Int32 × RS)} (hk18 : ∀ (s : RS) (x1 : Int32) (x2 : Int32) (x3 : Int32), k18 s x1 x2 x3 = some (r, s') → BlkI l yX11_sunk wsX11_sunk ({ frames := 6, cells := 0, slots := 0, locals := 135 }) cX11_sunk 4 (some .int) (dC, dI) (tysA cB cI cJ cZ cS) as 18 (mwS cB cI cJ cZ h a s) [(0, .ref h), (1, .int x1), (2, .int x2), (3, .int x3)] [] (fun x u => x = r ∧ u = (mwS cB cI cJ cZ h a s'))) (s : RS) (x1 : Int32) (x2 : Int32) (x3 : Int32) (hB : r_sunk_18 k18 s x1 x2 x3 = some (r, s')) : BlkI l yX11_sunk wsX11_sunk ({ frames := 6, cells := 0, slots := 0, locals := 135 }) cX11_sunk 4 (some .int) (dC, dI) (tysA cB cI cJ cZ cS) as 18 (mwS cB cI cJ cZ h a s) [(0, .ref h), (1, .int x1), (2, .int x2), (3, .int x3)] [] (fun x u => x = r ∧ u = (mwS cB cI cJ cZ h a s')) := by
  intro p e s0 m below meth c A E H locs ls hP hD hS hl
  obtain ⟨C, hr, hlocks, hA, hK, hN⟩ := id E
  obtain ⟨hx, hb, hml, hown, hts⟩ := id C
  unfold r_sunk_18 at hB
  refine lv_iload_n hx hb dX11_sunk_18 rfl (lv_at hl 3 rfl) ?_
  refine lv_aload_n hx hb dX11_sunk_19 rfl (lv_at hl 0 rfl) ?_
  refine q_get (v := .ref (a 23)) C inX11_sunk_X11 hK hP 0 rfl rfl 23 (by decide) rfl LX11_sunk_49 rfl dX11_sunk_20 ?_
  refine lv_aload_n hx hb dX11_sunk_23 rfl (lv_at hl 0 rfl) ?_
  refine q_get (v := .int (s.v 18)) C inX11_sunk_X11 hK hP 0 rfl rfl 18 (by decide) rfl LX11_sunk_215 rfl dX11_sunk_24 ?_
  obtain ⟨g1, hB⟩ := guard_inv hB
  refine q_iald (x := (s.f 23 (Int32.toNatClampNeg (s.v 18)))) C hK hP 11 1 rfl rfl (vpb_in g1) dX11_sunk_27 rfl ?_
  refine lv_icmp_ge (tgt := 69) hx hb dX11_sunk_28 (by decide) (fun c2 => ?_) (fun c2 => ?_)
  · have hB := if_p hB c2
    refine lv_iload_n hx hb dX11_sunk_69 rfl (lv_at hl 2 rfl) ?_
    exact q_iret C hr hlocks hK hP hD hS (Nat.le_of_ble_eq_true rfl) (Nat.le_of_ble_eq_true rfl) dX11_sunk_70 (by cases hB; exact ⟨rfl, rfl⟩)
  · have hB := if_n hB c2
    refine lv_aload_n hx hb dX11_sunk_31 rfl (lv_at hl 0 rfl) ?_
    refine lv_iload_n hx hb dX11_sunk_32 rfl (lv_at hl 3 rfl) ?_
    obtain ⟨q_, s3, hc, hB⟩ := bindI_inv hB
    refine q_goiF (va_runV (As := [.int x3]) (rest := []) C (cr_isHere hc _) (cwV 1 hts gX11_sunk_X11_isHere rfl rfl rfl (by decide +kernel) ⟨Nat.le_of_ble_eq_true rfl, Nat.le_of_ble_eq_true rfl⟩) (q_preV hK hP (ci := 11) (q0 := 0) rfl rfl rfl (q_preF hN hK hP hD)) rfl rfl hl.1 rfl (lv_room (Nat.le_of_ble_eq_true rfl)) dX11_sunk_33 ⟨Nat.le_of_ble_eq_true rfl, Nat.le_of_ble_eq_true rfl⟩) hD hS hA (fun r4 w1 H locs hw hP hD hS => ?_)
    obtain ⟨hq_, hw⟩ := hw; subst hw; subst hq_
    refine lv_if_eq (tgt := 63) hx hb dX11_sunk_36 (by decide) (fun c5 => ?_) (fun c5 => ?_)
    · have hB := if_p hB c5
      exact br_sunk_63 (hk18) _ _ _ _ hB p e s0 m below meth c A E H locs ls hP hD hS (lv_sub hl [0, 1, 2, 3] rfl)
    · have hB := if_n hB c5
      refine lv_aload_n hx hb dX11_sunk_39 rfl (lv_at hl 0 rfl) ?_
      refine lv_iload_n hx hb dX11_sunk_40 rfl (lv_at hl 3 rfl) ?_
      refine lv_iload_n hx hb dX11_sunk_41 rfl (lv_at hl 1 rfl) ?_
      obtain ⟨q_, s6, hc, hB⟩ := bindI_inv hB
      refine q_goiF (va_runV (As := [.int x3, .int x1]) (rest := []) C (cr_bearsBy hc _) (cwV 2 hts gX11_sunk_X11_bearsBy rfl rfl rfl (by decide +kernel) ⟨Nat.le_of_ble_eq_true rfl, Nat.le_of_ble_eq_true rfl⟩) (q_preV hK hP (ci := 11) (q0 := 0) rfl rfl rfl (q_preF hN hK hP hD)) rfl rfl hl.1 rfl (lv_room (Nat.le_of_ble_eq_true rfl)) dX11_sunk_42 ⟨Nat.le_of_ble_eq_true rfl, Nat.le_of_ble_eq_true rfl⟩) hD hS hA (fun r7 w1 H locs hw hP hD hS => ?_)
      obtain ⟨hq_, hw⟩ := hw; subst hw; subst hq_
      refine lv_aload_n hx hb dX11_sunk_45 rfl (lv_at hl 0 rfl) ?_
      refine q_get (v := .ref (a 20)) C inX11_sunk_X11 hK hP 0 rfl rfl 20 (by decide) rfl LX11_sunk_40 rfl dX11_sunk_46 ?_
      refine lv_aload_n hx hb dX11_sunk_49 rfl (lv_at hl 0 rfl) ?_
      refine q_get (v := .int (s6.v 18)) C inX11_sunk_X11 hK hP 0 rfl rfl 18 (by decide) rfl LX11_sunk_215 rfl dX11_sunk_50 ?_
      obtain ⟨g8, hB⟩ := guard_inv hB
      refine q_iald (x := (s6.f 20 (Int32.toNatClampNeg (s6.v 18)))) C hK hP 8 1 rfl rfl (vpb_in g8) dX11_sunk_53 rfl ?_
      refine lv_icmp_ge (tgt := 63) hx hb dX11_sunk_54 (by decide) (fun c9 => ?_) (fun c9 => ?_)
      · have hB := if_p hB c9
        exact br_sunk_63 (hk18) _ _ _ _ hB p e s0 m below meth c A E H locs ls hP hD hS (lv_sub hl [0, 1, 2, 3] rfl)
      · have hB := if_n hB c9
        refine lv_iload_n hx hb dX11_sunk_57 rfl (lv_at hl 2 rfl) ?_
        refine lv_iconst (v := 1) hx hb dX11_sunk_58 (by decide) ?_
        refine lv_iload_n hx hb dX11_sunk_59 rfl (lv_at hl 3 rfl) ?_
        refine lv_ishl hx hb dX11_sunk_60 ?_
        refine lv_ior hx hb dX11_sunk_61 ?_
        refine lv_istore_n (lv' := [(2, .int (x2 ||| (1 <<< (x3 &&& 31)))), (0, .ref h), (1, .int x1), (3, .int x3)]) hx hb dX11_sunk_62 rfl hl (by decide) rfl (fun ls hl => ?_)
        exact br_sunk_63 (hk18) _ _ _ _ hB p e s0 m below meth c A E H locs ls hP hD hS (lv_sub hl [1, 2, 0, 3] rfl)
theorem br_sunk_18L {l : Launch} {dC : Nat → ClassId} {dI : Nat → Nat → Nat} {cB cI cJ cZ cS : ClassId} {h : Nat} {a : Nat → Nat} {as : List Value} {r : Int32} {s' : RS} : ∀ (n : Nat) (s : RS) (x1 : Int32) (x2 : Int32) (x3 : Int32), r_sunk_18L n s x1 x2 x3 = some (r, s') → BlkI l yX11_sunk wsX11_sunk ({ frames := 6, cells := 0, slots := 0, locals := 135 }) cX11_sunk 4 (some .int) (dC, dI) (tysA cB cI cJ cZ cS) as 18 (mwS cB cI cJ cZ h a s) [(0, .ref h), (1, .int x1), (2, .int x2), (3, .int x3)] [] (fun x u => x = r ∧ u = (mwS cB cI cJ cZ h a s')) := by
  intro n
  induction n with
  | zero => intro s x1 x2 x3 hB; exact none_ne hB
  | succ n ih => intro s x1 x2 x3 hB; exact br_sunk_18 ih _ _ _ _ hB
set_option maxHeartbeats 4000000 in
set_option maxRecDepth 100000 in
theorem br_sunk {l : Launch} {dC : Nat → ClassId} {dI : Nat → Nat → Nat} {cB cI cJ cZ cS : ClassId} {h : Nat} {a : Nat → Nat} {as : List Value} {r : Int32} {s' : RS} (s : RS) (x1 : Int32) (hB : r_sunk s x1 = some (r, s')) : BlkI l yX11_sunk wsX11_sunk ({ frames := 6, cells := 0, slots := 0, locals := 135 }) cX11_sunk 4 (some .int) (dC, dI) (tysA cB cI cJ cZ cS) as 0 (mwS cB cI cJ cZ h a s) [(0, .ref h), (1, .int x1)] [] (fun x u => x = r ∧ u = (mwS cB cI cJ cZ h a s')) := by
  intro p e s0 m below meth c A E H locs ls hP hD hS hl
  obtain ⟨C, hr, hlocks, hA, hK, hN⟩ := id E
  obtain ⟨hx, hb, hml, hown, hts⟩ := id C
  unfold r_sunk at hB
  refine lv_aload_n hx hb dX11_sunk_0 rfl (lv_at hl 0 rfl) ?_
  refine lv_iload_n hx hb dX11_sunk_1 rfl (lv_at hl 1 rfl) ?_
  obtain ⟨q_, s1, hc, hB⟩ := bindI_inv hB
  refine q_goiF (va_runV (As := [.int x1]) (rest := []) C (cr_isGuess hc _) (cwV 1 hts gX11_sunk_X11_isGuess rfl rfl rfl (by decide +kernel) ⟨Nat.le_of_ble_eq_true rfl, Nat.le_of_ble_eq_true rfl⟩) (q_preV hK hP (ci := 11) (q0 := 0) rfl rfl rfl (q_preF hN hK hP hD)) rfl rfl hl.1 rfl (lv_room (Nat.le_of_ble_eq_true rfl)) dX11_sunk_2 ⟨Nat.le_of_ble_eq_true rfl, Nat.le_of_ble_eq_true rfl⟩) hD hS hA (fun r2 w1 H locs hw hP hD hS => ?_)
  obtain ⟨hq_, hw⟩ := hw; subst hw; subst hq_
  refine lv_if_ne (tgt := 10) hx hb dX11_sunk_5 (by decide) (fun c3 => ?_) (fun c3 => ?_)
  · have hB := if_n hB c3
    refine lv_aload_n hx hb dX11_sunk_10 rfl (lv_at hl 0 rfl) ?_
    obtain ⟨s4, hc, hB⟩ := bindP_inv hB
    refine q_govF (va_runV (As := []) (rest := []) C (cr_copies hc _) (cwV 0 hts gX11_sunk_X11_copies rfl rfl rfl (by decide +kernel) ⟨Nat.le_of_ble_eq_true rfl, Nat.le_of_ble_eq_true rfl⟩) (q_preV hK hP (ci := 11) (q0 := 0) rfl rfl rfl (q_preF hN hK hP hD)) rfl rfl hl.1 rfl (lv_room (Nat.le_of_ble_eq_true rfl)) dX11_sunk_11 ⟨Nat.le_of_ble_eq_true rfl, Nat.le_of_ble_eq_true rfl⟩) hD hS hA (fun w1 H locs hw hP hD hS => ?_)
    subst hw
    refine lv_iconst (v := 0) hx hb dX11_sunk_14 (by decide) ?_
    refine lv_istore_n (lv' := [(2, .int 0), (0, .ref h), (1, .int x1)]) hx hb dX11_sunk_15 rfl hl (by decide) rfl (fun ls hl => ?_)
    refine lv_iconst (v := 0) hx hb dX11_sunk_16 (by decide) ?_
    refine lv_istore_n (lv' := [(3, .int 0), (2, .int 0), (0, .ref h), (1, .int x1)]) hx hb dX11_sunk_17 rfl hl (by decide) rfl (fun ls hl => ?_)
    exact br_sunk_18L fu _ _ _ _ hB p e s0 m below meth c A E H locs ls hP hD hS (lv_sub hl [2, 3, 1, 0] rfl)
  · have hB := if_p hB c3
    refine lv_iconst (v := (-1)) hx hb dX11_sunk_8 (by decide) ?_
    exact q_iret C hr hlocks hK hP hD hS (Nat.le_of_ble_eq_true rfl) (Nat.le_of_ble_eq_true rfl) dX11_sunk_9 (by cases hB; exact ⟨rfl, rfl⟩)
theorem cr_sunk {l : Launch} {dC : Nat → ClassId} {dI : Nat → Nat → Nat} {cB cI cJ cZ cS : ClassId} {h : Nat} {a : Nat → Nat} {r : Int32} {s' : RS} {s : RS} {x1 : Int32} (hB : r_sunk s x1 = some (r, s')) : CI l yX11_sunk wsX11_sunk ({ frames := 6, cells := 0, slots := 0, locals := 135 }) (dC, dI) (tysA cB cI cJ cZ cS) (mwS cB cI cJ cZ h a s) [.ref h, .int x1] (fun x u => x = r ∧ u = (mwS cB cI cJ cZ h a s')) :=
  CI_of (cc := cX11_sunk) (maxL := 4) (ret := (some .int)) (by decide) rfl (Nat.le_of_ble_eq_true rfl) (br_sunk _ _ hB)
theorem LX11_stuck_215 : Cond.fieldLink RX11 215 "GuessFerryModel" "live" "I" ∈ wsX11_stuck := (List.mem_cons_of_mem _ (List.mem_append_left _ (List.mem_append_left _ (List.mem_of_getElem? (i := 1) rfl))))
theorem LX11_stuck_49 : Cond.fieldLink RX11 49 "GuessFerryModel" "parties" "[I" ∈ wsX11_stuck := (List.mem_cons_of_mem _ (List.mem_append_left _ (List.mem_append_left _ (List.mem_of_getElem? (i := 0) rfl))))
theorem inX11_stuck_X11 : ∀ w ∈ u_ws RX11 TX11 58, w ∈ wsX11_stuck := fun w h => (List.mem_cons_of_mem _ (List.mem_append_right _ h))
set_option maxHeartbeats 4000000 in
set_option maxRecDepth 100000 in
theorem br_stuck_43 {l : Launch} {dC : Nat → ClassId} {dI : Nat → Nat → Nat} {cB cI cJ cZ cS : ClassId} {h : Nat} {a : Nat → Nat} {as : List Value} {r : Int32} {s' : RS} {k8 : RS → Int32 → Int32 → Option (Int32 × RS)} (hk8 : ∀ (s : RS) (x1 : Int32) (x2 : Int32), k8 s x1 x2 = some (r, s') → BlkI l yX11_stuck wsX11_stuck ({ frames := 6, cells := 0, slots := 0, locals := 137 }) cX11_stuck 3 (some .int) (dC, dI) (tysA cB cI cJ cZ cS) as 8 (mwS cB cI cJ cZ h a s) [(0, .ref h), (1, .int x1), (2, .int x2)] [] (fun x u => x = r ∧ u = (mwS cB cI cJ cZ h a s'))) (s : RS) (x1 : Int32) (x2 : Int32) (hB : r_stuck_43 k8 s x1 x2 = some (r, s')) : BlkI l yX11_stuck wsX11_stuck ({ frames := 6, cells := 0, slots := 0, locals := 137 }) cX11_stuck 3 (some .int) (dC, dI) (tysA cB cI cJ cZ cS) as 43 (mwS cB cI cJ cZ h a s) [(0, .ref h), (1, .int x1), (2, .int x2)] [] (fun x u => x = r ∧ u = (mwS cB cI cJ cZ h a s')) := by
  intro p e s0 m below meth c A E H locs ls hP hD hS hl
  obtain ⟨C, hr, hlocks, hA, hK, hN⟩ := id E
  obtain ⟨hx, hb, hml, hown, hts⟩ := id C
  unfold r_stuck_43 at hB
  refine lv_iinc (v := (x2 + 1)) (lv' := [(2, .int (x2 + 1)), (0, .ref h), (1, .int x1)]) hx hb dX11_stuck_43 hl (k := 2) rfl (rfl) (by decide) rfl (fun ls hl => ?_)
  refine lv_goto (tgt := 8) hx hb dX11_stuck_46 (by decide) ?_
  exact hk8 _ _ _ hB p e s0 m below meth c A E H locs ls hP hD hS (lv_sub hl [1, 2, 0] rfl)
set_option maxHeartbeats 4000000 in
set_option maxRecDepth 100000 in
theorem br_stuck_8 {l : Launch} {dC : Nat → ClassId} {dI : Nat → Nat → Nat} {cB cI cJ cZ cS : ClassId} {h : Nat} {a : Nat → Nat} {as : List Value} {r : Int32} {s' : RS} {k8 : RS → Int32 → Int32 → Option (Int32 × RS)} (hk8 : ∀ (s : RS) (x1 : Int32) (x2 : Int32), k8 s x1 x2 = some (r, s') → BlkI l yX11_stuck wsX11_stuck ({ frames := 6, cells := 0, slots := 0, locals := 137 }) cX11_stuck 3 (some .int) (dC, dI) (tysA cB cI cJ cZ cS) as 8 (mwS cB cI cJ cZ h a s) [(0, .ref h), (1, .int x1), (2, .int x2)] [] (fun x u => x = r ∧ u = (mwS cB cI cJ cZ h a s'))) (s : RS) (x1 : Int32) (x2 : Int32) (hB : r_stuck_8 k8 s x1 x2 = some (r, s')) : BlkI l yX11_stuck wsX11_stuck ({ frames := 6, cells := 0, slots := 0, locals := 137 }) cX11_stuck 3 (some .int) (dC, dI) (tysA cB cI cJ cZ cS) as 8 (mwS cB cI cJ cZ h a s) [(0, .ref h), (1, .int x1), (2, .int x2)] [] (fun x u => x = r ∧ u = (mwS cB cI cJ cZ h a s')) := by
  intro p e s0 m below meth c A E H locs ls hP hD hS hl
  obtain ⟨C, hr, hlocks, hA, hK, hN⟩ := id E
  obtain ⟨hx, hb, hml, hown, hts⟩ := id C
  unfold r_stuck_8 at hB
  refine lv_iload_n hx hb dX11_stuck_8 rfl (lv_at hl 2 rfl) ?_
  refine lv_aload_n hx hb dX11_stuck_9 rfl (lv_at hl 0 rfl) ?_
  refine q_get (v := .ref (a 23)) C inX11_stuck_X11 hK hP 0 rfl rfl 23 (by decide) rfl LX11_stuck_49 rfl dX11_stuck_10 ?_
  refine lv_aload_n hx hb dX11_stuck_13 rfl (lv_at hl 0 rfl) ?_
  refine q_get (v := .int (s.v 18)) C inX11_stuck_X11 hK hP 0 rfl rfl 18 (by decide) rfl LX11_stuck_215 rfl dX11_stuck_14 ?_
  obtain ⟨g1, hB⟩ := guard_inv hB
  refine q_iald (x := (s.f 23 (Int32.toNatClampNeg (s.v 18)))) C hK hP 11 1 rfl rfl (vpb_in g1) dX11_stuck_17 rfl ?_
  refine lv_icmp_ge (tgt := 49) hx hb dX11_stuck_18 (by decide) (fun c2 => ?_) (fun c2 => ?_)
  · have hB := if_p hB c2
    refine lv_iload_n hx hb dX11_stuck_49 rfl (lv_at hl 1 rfl) ?_
    exact q_iret C hr hlocks hK hP hD hS (Nat.le_of_ble_eq_true rfl) (Nat.le_of_ble_eq_true rfl) dX11_stuck_50 (by cases hB; exact ⟨rfl, rfl⟩)
  · have hB := if_n hB c2
    refine lv_aload_n hx hb dX11_stuck_21 rfl (lv_at hl 0 rfl) ?_
    refine lv_iload_n hx hb dX11_stuck_22 rfl (lv_at hl 2 rfl) ?_
    obtain ⟨q_, s3, hc, hB⟩ := bindI_inv hB
    refine q_goiF (va_runV (As := [.int x2]) (rest := []) C (cr_isHere hc _) (cwV 1 hts gX11_stuck_X11_isHere rfl rfl rfl (by decide +kernel) ⟨Nat.le_of_ble_eq_true rfl, Nat.le_of_ble_eq_true rfl⟩) (q_preV hK hP (ci := 11) (q0 := 0) rfl rfl rfl (q_preF hN hK hP hD)) rfl rfl hl.1 rfl (lv_room (Nat.le_of_ble_eq_true rfl)) dX11_stuck_23 ⟨Nat.le_of_ble_eq_true rfl, Nat.le_of_ble_eq_true rfl⟩) hD hS hA (fun r4 w1 H locs hw hP hD hS => ?_)
    obtain ⟨hq_, hw⟩ := hw; subst hw; subst hq_
    refine lv_if_eq (tgt := 43) hx hb dX11_stuck_26 (by decide) (fun c5 => ?_) (fun c5 => ?_)
    · have hB := if_p hB c5
      exact br_stuck_43 (hk8) _ _ _ hB p e s0 m below meth c A E H locs ls hP hD hS (lv_sub hl [0, 1, 2] rfl)
    · have hB := if_n hB c5
      refine lv_aload_n hx hb dX11_stuck_29 rfl (lv_at hl 0 rfl) ?_
      refine lv_iload_n hx hb dX11_stuck_30 rfl (lv_at hl 2 rfl) ?_
      obtain ⟨q_, s6, hc, hB⟩ := bindI_inv hB
      refine q_goiF (va_runV (As := [.int x2]) (rest := []) C (cr_bestFor hc _) (cwV 1 hts gX11_stuck_X11_bestFor rfl rfl rfl (by decide +kernel) ⟨Nat.le_of_ble_eq_true rfl, Nat.le_of_ble_eq_true rfl⟩) (q_preV hK hP (ci := 11) (q0 := 0) rfl rfl rfl (q_preF hN hK hP hD)) rfl rfl hl.1 rfl (lv_room (Nat.le_of_ble_eq_true rfl)) dX11_stuck_31 ⟨Nat.le_of_ble_eq_true rfl, Nat.le_of_ble_eq_true rfl⟩) hD hS hA (fun r7 w1 H locs hw hP hD hS => ?_)
      obtain ⟨hq_, hw⟩ := hw; subst hw; subst hq_
      refine lv_if_ge (tgt := 43) hx hb dX11_stuck_34 (by decide) (fun c8 => ?_) (fun c8 => ?_)
      · have hB := if_p hB c8
        exact br_stuck_43 (hk8) _ _ _ hB p e s0 m below meth c A E H locs ls hP hD hS (lv_sub hl [0, 1, 2] rfl)
      · have hB := if_n hB c8
        refine lv_iload_n hx hb dX11_stuck_37 rfl (lv_at hl 1 rfl) ?_
        refine lv_iconst (v := 1) hx hb dX11_stuck_38 (by decide) ?_
        refine lv_iload_n hx hb dX11_stuck_39 rfl (lv_at hl 2 rfl) ?_
        refine lv_ishl hx hb dX11_stuck_40 ?_
        refine lv_ior hx hb dX11_stuck_41 ?_
        refine lv_istore_n (lv' := [(1, .int (x1 ||| (1 <<< (x2 &&& 31)))), (0, .ref h), (2, .int x2)]) hx hb dX11_stuck_42 rfl hl (by decide) rfl (fun ls hl => ?_)
        exact br_stuck_43 (hk8) _ _ _ hB p e s0 m below meth c A E H locs ls hP hD hS (lv_sub hl [1, 0, 2] rfl)
theorem br_stuck_8L {l : Launch} {dC : Nat → ClassId} {dI : Nat → Nat → Nat} {cB cI cJ cZ cS : ClassId} {h : Nat} {a : Nat → Nat} {as : List Value} {r : Int32} {s' : RS} : ∀ (n : Nat) (s : RS) (x1 : Int32) (x2 : Int32), r_stuck_8L n s x1 x2 = some (r, s') → BlkI l yX11_stuck wsX11_stuck ({ frames := 6, cells := 0, slots := 0, locals := 137 }) cX11_stuck 3 (some .int) (dC, dI) (tysA cB cI cJ cZ cS) as 8 (mwS cB cI cJ cZ h a s) [(0, .ref h), (1, .int x1), (2, .int x2)] [] (fun x u => x = r ∧ u = (mwS cB cI cJ cZ h a s')) := by
  intro n
  induction n with
  | zero => intro s x1 x2 hB; exact none_ne hB
  | succ n ih => intro s x1 x2 hB; exact br_stuck_8 ih _ _ _ hB
set_option maxHeartbeats 4000000 in
set_option maxRecDepth 100000 in
theorem br_stuck {l : Launch} {dC : Nat → ClassId} {dI : Nat → Nat → Nat} {cB cI cJ cZ cS : ClassId} {h : Nat} {a : Nat → Nat} {as : List Value} {r : Int32} {s' : RS} (s : RS) (hB : r_stuck s = some (r, s')) : BlkI l yX11_stuck wsX11_stuck ({ frames := 6, cells := 0, slots := 0, locals := 137 }) cX11_stuck 3 (some .int) (dC, dI) (tysA cB cI cJ cZ cS) as 0 (mwS cB cI cJ cZ h a s) [(0, .ref h)] [] (fun x u => x = r ∧ u = (mwS cB cI cJ cZ h a s')) := by
  intro p e s0 m below meth c A E H locs ls hP hD hS hl
  obtain ⟨C, hr, hlocks, hA, hK, hN⟩ := id E
  obtain ⟨hx, hb, hml, hown, hts⟩ := id C
  unfold r_stuck at hB
  refine lv_aload_n hx hb dX11_stuck_0 rfl (lv_at hl 0 rfl) ?_
  obtain ⟨s1, hc, hB⟩ := bindP_inv hB
  refine q_govF (va_runV (As := []) (rest := []) C (cr_copies hc _) (cwV 0 hts gX11_stuck_X11_copies rfl rfl rfl (by decide +kernel) ⟨Nat.le_of_ble_eq_true rfl, Nat.le_of_ble_eq_true rfl⟩) (q_preV hK hP (ci := 11) (q0 := 0) rfl rfl rfl (q_preF hN hK hP hD)) rfl rfl hl.1 rfl (lv_room (Nat.le_of_ble_eq_true rfl)) dX11_stuck_1 ⟨Nat.le_of_ble_eq_true rfl, Nat.le_of_ble_eq_true rfl⟩) hD hS hA (fun w1 H locs hw hP hD hS => ?_)
  subst hw
  refine lv_iconst (v := 0) hx hb dX11_stuck_4 (by decide) ?_
  refine lv_istore_n (lv' := [(1, .int 0), (0, .ref h)]) hx hb dX11_stuck_5 rfl hl (by decide) rfl (fun ls hl => ?_)
  refine lv_iconst (v := 0) hx hb dX11_stuck_6 (by decide) ?_
  refine lv_istore_n (lv' := [(2, .int 0), (1, .int 0), (0, .ref h)]) hx hb dX11_stuck_7 rfl hl (by decide) rfl (fun ls hl => ?_)
  exact br_stuck_8L fu _ _ _ hB p e s0 m below meth c A E H locs ls hP hD hS (lv_sub hl [2, 1, 0] rfl)
theorem cr_stuck {l : Launch} {dC : Nat → ClassId} {dI : Nat → Nat → Nat} {cB cI cJ cZ cS : ClassId} {h : Nat} {a : Nat → Nat} {r : Int32} {s' : RS} {s : RS} (hB : r_stuck s = some (r, s')) : CI l yX11_stuck wsX11_stuck ({ frames := 6, cells := 0, slots := 0, locals := 137 }) (dC, dI) (tysA cB cI cJ cZ cS) (mwS cB cI cJ cZ h a s) [.ref h] (fun x u => x = r ∧ u = (mwS cB cI cJ cZ h a s')) :=
  CI_of (cc := cX11_stuck) (maxL := 3) (ret := (some .int)) (by decide) rfl (Nat.le_of_ble_eq_true rfl) (br_stuck _ hB)
set_option maxHeartbeats 4000000 in
set_option maxRecDepth 100000 in
theorem br_spread_80 {l : Launch} {dC : Nat → ClassId} {dI : Nat → Nat → Nat} {cB cI cJ cZ cS : ClassId} {h : Nat} {a : Nat → Nat} {as : List Value} {r : Int32} {s' : RS} {k22 : RS → Int32 → Int32 → Int32 → Int32 → Option (Int32 × RS)} (hk22 : ∀ (s : RS) (x1 : Int32) (x2 : Int32) (x3 : Int32) (x4 : Int32), k22 s x1 x2 x3 x4 = some (r, s') → BlkI l yX11_spread wsX11_spread ({ frames := 3, cells := 0, slots := 0, locals := 67 }) cX11_spread 5 (some .int) (dC, dI) (tysA cB cI cJ cZ cS) as 22 (mwS cB cI cJ cZ h a s) [(0, .ref h), (1, .int x1), (2, .int x2), (3, .int x3), (4, .int x4)] [] (fun x u => x = r ∧ u = (mwS cB cI cJ cZ h a s'))) (s : RS) (x1 : Int32) (x2 : Int32) (x3 : Int32) (x4 : Int32) (hB : r_spread_80 k22 s x1 x2 x3 x4 = some (r, s')) : BlkI l yX11_spread wsX11_spread ({ frames := 3, cells := 0, slots := 0, locals := 67 }) cX11_spread 5 (some .int) (dC, dI) (tysA cB cI cJ cZ cS) as 80 (mwS cB cI cJ cZ h a s) [(0, .ref h), (1, .int x1), (2, .int x2), (3, .int x3), (4, .int x4)] [] (fun x u => x = r ∧ u = (mwS cB cI cJ cZ h a s')) := by
  intro p e s0 m below meth c A E H locs ls hP hD hS hl
  obtain ⟨C, hr, hlocks, hA, hK, hN⟩ := id E
  obtain ⟨hx, hb, hml, hown, hts⟩ := id C
  unfold r_spread_80 at hB
  refine lv_iinc (v := (x4 + 1)) (lv' := [(4, .int (x4 + 1)), (0, .ref h), (1, .int x1), (2, .int x2), (3, .int x3)]) hx hb dX11_spread_80 hl (k := 4) rfl (rfl) (by decide) rfl (fun ls hl => ?_)
  refine lv_goto (tgt := 22) hx hb dX11_spread_83 (by decide) ?_
  exact hk22 _ _ _ _ _ hB p e s0 m below meth c A E H locs ls hP hD hS (lv_sub hl [1, 2, 3, 4, 0] rfl)
set_option maxHeartbeats 4000000 in
set_option maxRecDepth 100000 in
theorem br_spread_61 {l : Launch} {dC : Nat → ClassId} {dI : Nat → Nat → Nat} {cB cI cJ cZ cS : ClassId} {h : Nat} {a : Nat → Nat} {as : List Value} {r : Int32} {s' : RS} {k22 : RS → Int32 → Int32 → Int32 → Int32 → Option (Int32 × RS)} (hk22 : ∀ (s : RS) (x1 : Int32) (x2 : Int32) (x3 : Int32) (x4 : Int32), k22 s x1 x2 x3 x4 = some (r, s') → BlkI l yX11_spread wsX11_spread ({ frames := 3, cells := 0, slots := 0, locals := 67 }) cX11_spread 5 (some .int) (dC, dI) (tysA cB cI cJ cZ cS) as 22 (mwS cB cI cJ cZ h a s) [(0, .ref h), (1, .int x1), (2, .int x2), (3, .int x3), (4, .int x4)] [] (fun x u => x = r ∧ u = (mwS cB cI cJ cZ h a s'))) (s : RS) (x1 : Int32) (x2 : Int32) (x3 : Int32) (x4 : Int32) (hB : r_spread_61 k22 s x1 x2 x3 x4 = some (r, s')) : BlkI l yX11_spread wsX11_spread ({ frames := 3, cells := 0, slots := 0, locals := 67 }) cX11_spread 5 (some .int) (dC, dI) (tysA cB cI cJ cZ cS) as 61 (mwS cB cI cJ cZ h a s) [(0, .ref h), (1, .int x1), (2, .int x2), (3, .int x3), (4, .int x4)] [] (fun x u => x = r ∧ u = (mwS cB cI cJ cZ h a s')) := by
  intro p e s0 m below meth c A E H locs ls hP hD hS hl
  obtain ⟨C, hr, hlocks, hA, hK, hN⟩ := id E
  obtain ⟨hx, hb, hml, hown, hts⟩ := id C
  unfold r_spread_61 at hB
  refine lv_aload_n hx hb dX11_spread_61 rfl (lv_at hl 0 rfl) ?_
  refine lv_iload_n hx hb dX11_spread_62 rfl (lv_at hl 1 rfl) ?_
  refine lv_iload hx hb dX11_spread_63 (lv_at hl 4 rfl) ?_
  obtain ⟨q_, s1, hc, hB⟩ := bindI_inv hB
  refine q_goiF (va_runV (As := [.int x1, .int x4]) (rest := []) C (cr_oddsAt hc _) (cwV 2 hts gX11_spread_X11_oddsAt rfl rfl rfl (by decide +kernel) ⟨Nat.le_of_ble_eq_true rfl, Nat.le_of_ble_eq_true rfl⟩) (q_preV hK hP (ci := 11) (q0 := 0) rfl rfl rfl (q_preF hN hK hP hD)) rfl rfl hl.1 rfl (lv_room (Nat.le_of_ble_eq_true rfl)) dX11_spread_65 ⟨Nat.le_of_ble_eq_true rfl, Nat.le_of_ble_eq_true rfl⟩) hD hS hA (fun r2 w1 H locs hw hP hD hS => ?_)
  obtain ⟨hq_, hw⟩ := hw; subst hw; subst hq_
  refine lv_iload_n hx hb dX11_spread_68 rfl (lv_at hl 3 rfl) ?_
  refine lv_icmp_ge (tgt := 80) hx hb dX11_spread_69 (by decide) (fun c3 => ?_) (fun c3 => ?_)
  · have hB := if_p hB c3
    exact br_spread_80 (hk22) _ _ _ _ _ hB p e s0 m below meth c A E H locs ls hP hD hS (lv_sub hl [0, 1, 2, 3, 4] rfl)
  · have hB := if_n hB c3
    refine lv_aload_n hx hb dX11_spread_72 rfl (lv_at hl 0 rfl) ?_
    refine lv_iload_n hx hb dX11_spread_73 rfl (lv_at hl 1 rfl) ?_
    refine lv_iload hx hb dX11_spread_74 (lv_at hl 4 rfl) ?_
    obtain ⟨q_, s4, hc, hB⟩ := bindI_inv hB
    refine q_goiF (va_runV (As := [.int x1, .int x4]) (rest := []) C (cr_oddsAt hc _) (cwV 2 hts gX11_spread_X11_oddsAt rfl rfl rfl (by decide +kernel) ⟨Nat.le_of_ble_eq_true rfl, Nat.le_of_ble_eq_true rfl⟩) (q_preV hK hP (ci := 11) (q0 := 0) rfl rfl rfl (q_preF hN hK hP hD)) rfl rfl hl.1 rfl (lv_room (Nat.le_of_ble_eq_true rfl)) dX11_spread_76 ⟨Nat.le_of_ble_eq_true rfl, Nat.le_of_ble_eq_true rfl⟩) hD hS hA (fun r5 w1 H locs hw hP hD hS => ?_)
    obtain ⟨hq_, hw⟩ := hw; subst hw; subst hq_
    refine lv_istore_n (lv' := [(3, .int r5), (0, .ref h), (1, .int x1), (2, .int x2), (4, .int x4)]) hx hb dX11_spread_79 rfl hl (by decide) rfl (fun ls hl => ?_)
    exact br_spread_80 (hk22) _ _ _ _ _ hB p e s0 m below meth c A E H locs ls hP hD hS (lv_sub hl [1, 2, 3, 0, 4] rfl)
set_option maxHeartbeats 4000000 in
set_option maxRecDepth 100000 in
theorem br_spread_22 {l : Launch} {dC : Nat → ClassId} {dI : Nat → Nat → Nat} {cB cI cJ cZ cS : ClassId} {h : Nat} {a : Nat → Nat} {as : List Value} {r : Int32} {s' : RS} {k22 : RS → Int32 → Int32 → Int32 → Int32 → Option (Int32 × RS)} (hk22 : ∀ (s : RS) (x1 : Int32) (x2 : Int32) (x3 : Int32) (x4 : Int32), k22 s x1 x2 x3 x4 = some (r, s') → BlkI l yX11_spread wsX11_spread ({ frames := 3, cells := 0, slots := 0, locals := 67 }) cX11_spread 5 (some .int) (dC, dI) (tysA cB cI cJ cZ cS) as 22 (mwS cB cI cJ cZ h a s) [(0, .ref h), (1, .int x1), (2, .int x2), (3, .int x3), (4, .int x4)] [] (fun x u => x = r ∧ u = (mwS cB cI cJ cZ h a s'))) (s : RS) (x1 : Int32) (x2 : Int32) (x3 : Int32) (x4 : Int32) (hB : r_spread_22 k22 s x1 x2 x3 x4 = some (r, s')) : BlkI l yX11_spread wsX11_spread ({ frames := 3, cells := 0, slots := 0, locals := 67 }) cX11_spread 5 (some .int) (dC, dI) (tysA cB cI cJ cZ cS) as 22 (mwS cB cI cJ cZ h a s) [(0, .ref h), (1, .int x1), (2, .int x2), (3, .int x3), (4, .int x4)] [] (fun x u => x = r ∧ u = (mwS cB cI cJ cZ h a s')) := by
  intro p e s0 m below meth c A E H locs ls hP hD hS hl
  obtain ⟨C, hr, hlocks, hA, hK, hN⟩ := id E
  obtain ⟨hx, hb, hml, hown, hts⟩ := id C
  unfold r_spread_22 at hB
  refine lv_iload hx hb dX11_spread_22 (lv_at hl 4 rfl) ?_
  refine lv_bipush (v := 6) hx hb dX11_spread_24 (by decide) ?_
  refine lv_icmp_ge (tgt := 86) hx hb dX11_spread_26 (by decide) (fun c1 => ?_) (fun c1 => ?_)
  · have hB := if_p hB c1
    refine lv_iload_n hx hb dX11_spread_86 rfl (lv_at hl 2 rfl) ?_
    refine lv_iload_n hx hb dX11_spread_87 rfl (lv_at hl 3 rfl) ?_
    refine lv_icmp_ge (tgt := 95) hx hb dX11_spread_88 (by decide) (fun c2 => ?_) (fun c2 => ?_)
    · have hB := if_p hB c2
      refine lv_iload_n hx hb dX11_spread_95 rfl (lv_at hl 2 rfl) ?_
      refine lv_iload_n hx hb dX11_spread_96 rfl (lv_at hl 3 rfl) ?_
      refine lv_isub hx hb dX11_spread_97 ?_
      exact q_iret C hr hlocks hK hP hD hS (Nat.le_of_ble_eq_true rfl) (Nat.le_of_ble_eq_true rfl) dX11_spread_98 (by cases hB; exact ⟨rfl, rfl⟩)
    · have hB := if_n hB c2
      refine lv_iconst (v := 0) hx hb dX11_spread_91 (by decide) ?_
      refine lv_goto (tgt := 98) hx hb dX11_spread_92 (by decide) ?_
      exact q_iret C hr hlocks hK hP hD hS (Nat.le_of_ble_eq_true rfl) (Nat.le_of_ble_eq_true rfl) dX11_spread_98 (by cases hB; exact ⟨rfl, rfl⟩)
  · have hB := if_n hB c1
    refine lv_aload_n hx hb dX11_spread_29 rfl (lv_at hl 0 rfl) ?_
    refine lv_iload_n hx hb dX11_spread_30 rfl (lv_at hl 1 rfl) ?_
    refine lv_iload hx hb dX11_spread_31 (lv_at hl 4 rfl) ?_
    obtain ⟨q_, s3, hc, hB⟩ := bindI_inv hB
    refine q_goiF (va_runV (As := [.int x1, .int x4]) (rest := []) C (cr_mayBe hc _) (cwV 2 hts gX11_spread_X11_mayBe rfl rfl rfl (by decide +kernel) ⟨Nat.le_of_ble_eq_true rfl, Nat.le_of_ble_eq_true rfl⟩) (q_preV hK hP (ci := 11) (q0 := 0) rfl rfl rfl (q_preF hN hK hP hD)) rfl rfl hl.1 rfl (lv_room (Nat.le_of_ble_eq_true rfl)) dX11_spread_33 ⟨Nat.le_of_ble_eq_true rfl, Nat.le_of_ble_eq_true rfl⟩) hD hS hA (fun r4 w1 H locs hw hP hD hS => ?_)
    obtain ⟨hq_, hw⟩ := hw; subst hw; subst hq_
    refine lv_if_ne (tgt := 42) hx hb dX11_spread_36 (by decide) (fun c5 => ?_) (fun c5 => ?_)
    · have hB := if_n hB c5
      refine lv_aload_n hx hb dX11_spread_42 rfl (lv_at hl 0 rfl) ?_
      refine lv_iload_n hx hb dX11_spread_43 rfl (lv_at hl 1 rfl) ?_
      refine lv_iload hx hb dX11_spread_44 (lv_at hl 4 rfl) ?_
      obtain ⟨q_, s6, hc, hB⟩ := bindI_inv hB
      refine q_goiF (va_runV (As := [.int x1, .int x4]) (rest := []) C (cr_oddsAt hc _) (cwV 2 hts gX11_spread_X11_oddsAt rfl rfl rfl (by decide +kernel) ⟨Nat.le_of_ble_eq_true rfl, Nat.le_of_ble_eq_true rfl⟩) (q_preV hK hP (ci := 11) (q0 := 0) rfl rfl rfl (q_preF hN hK hP hD)) rfl rfl hl.1 rfl (lv_room (Nat.le_of_ble_eq_true rfl)) dX11_spread_46 ⟨Nat.le_of_ble_eq_true rfl, Nat.le_of_ble_eq_true rfl⟩) hD hS hA (fun r7 w1 H locs hw hP hD hS => ?_)
      obtain ⟨hq_, hw⟩ := hw; subst hw; subst hq_
      refine lv_iload_n hx hb dX11_spread_49 rfl (lv_at hl 2 rfl) ?_
      refine lv_icmp_le (tgt := 61) hx hb dX11_spread_50 (by decide) (fun c8 => ?_) (fun c8 => ?_)
      · have hB := if_p hB c8
        exact br_spread_61 (hk22) _ _ _ _ _ hB p e s0 m below meth c A E H locs ls hP hD hS (lv_sub hl [0, 1, 2, 3, 4] rfl)
      · have hB := if_n hB c8
        refine lv_aload_n hx hb dX11_spread_53 rfl (lv_at hl 0 rfl) ?_
        refine lv_iload_n hx hb dX11_spread_54 rfl (lv_at hl 1 rfl) ?_
        refine lv_iload hx hb dX11_spread_55 (lv_at hl 4 rfl) ?_
        obtain ⟨q_, s9, hc, hB⟩ := bindI_inv hB
        refine q_goiF (va_runV (As := [.int x1, .int x4]) (rest := []) C (cr_oddsAt hc _) (cwV 2 hts gX11_spread_X11_oddsAt rfl rfl rfl (by decide +kernel) ⟨Nat.le_of_ble_eq_true rfl, Nat.le_of_ble_eq_true rfl⟩) (q_preV hK hP (ci := 11) (q0 := 0) rfl rfl rfl (q_preF hN hK hP hD)) rfl rfl hl.1 rfl (lv_room (Nat.le_of_ble_eq_true rfl)) dX11_spread_57 ⟨Nat.le_of_ble_eq_true rfl, Nat.le_of_ble_eq_true rfl⟩) hD hS hA (fun r10 w1 H locs hw hP hD hS => ?_)
        obtain ⟨hq_, hw⟩ := hw; subst hw; subst hq_
        refine lv_istore_n (lv' := [(2, .int r10), (0, .ref h), (1, .int x1), (3, .int x3), (4, .int x4)]) hx hb dX11_spread_60 rfl hl (by decide) rfl (fun ls hl => ?_)
        exact br_spread_61 (hk22) _ _ _ _ _ hB p e s0 m below meth c A E H locs ls hP hD hS (lv_sub hl [1, 2, 0, 3, 4] rfl)
    · have hB := if_p hB c5
      refine lv_goto (tgt := 80) hx hb dX11_spread_39 (by decide) ?_
      exact br_spread_80 (hk22) _ _ _ _ _ hB p e s0 m below meth c A E H locs ls hP hD hS (lv_sub hl [0, 1, 2, 3, 4] rfl)
theorem br_spread_22L {l : Launch} {dC : Nat → ClassId} {dI : Nat → Nat → Nat} {cB cI cJ cZ cS : ClassId} {h : Nat} {a : Nat → Nat} {as : List Value} {r : Int32} {s' : RS} : ∀ (n : Nat) (s : RS) (x1 : Int32) (x2 : Int32) (x3 : Int32) (x4 : Int32), r_spread_22L n s x1 x2 x3 x4 = some (r, s') → BlkI l yX11_spread wsX11_spread ({ frames := 3, cells := 0, slots := 0, locals := 67 }) cX11_spread 5 (some .int) (dC, dI) (tysA cB cI cJ cZ cS) as 22 (mwS cB cI cJ cZ h a s) [(0, .ref h), (1, .int x1), (2, .int x2), (3, .int x3), (4, .int x4)] [] (fun x u => x = r ∧ u = (mwS cB cI cJ cZ h a s')) := by
  intro n
  induction n with
  | zero => intro s x1 x2 x3 x4 hB; exact none_ne hB
  | succ n ih => intro s x1 x2 x3 x4 hB; exact br_spread_22 ih _ _ _ _ _ hB
set_option maxHeartbeats 4000000 in
set_option maxRecDepth 100000 in
theorem br_spread {l : Launch} {dC : Nat → ClassId} {dI : Nat → Nat → Nat} {cB cI cJ cZ cS : ClassId} {h : Nat} {a : Nat → Nat} {as : List Value} {r : Int32} {s' : RS} (s : RS) (x1 : Int32) (hB : r_spread s x1 = some (r, s')) : BlkI l yX11_spread wsX11_spread ({ frames := 3, cells := 0, slots := 0, locals := 67 }) cX11_spread 5 (some .int) (dC, dI) (tysA cB cI cJ cZ cS) as 0 (mwS cB cI cJ cZ h a s) [(0, .ref h), (1, .int x1)] [] (fun x u => x = r ∧ u = (mwS cB cI cJ cZ h a s')) := by
  intro p e s0 m below meth c A E H locs ls hP hD hS hl
  obtain ⟨C, hr, hlocks, hA, hK, hN⟩ := id E
  obtain ⟨hx, hb, hml, hown, hts⟩ := id C
  unfold r_spread at hB
  refine lv_aload_n hx hb dX11_spread_0 rfl (lv_at hl 0 rfl) ?_
  refine lv_iload_n hx hb dX11_spread_1 rfl (lv_at hl 1 rfl) ?_
  obtain ⟨q_, s1, hc, hB⟩ := bindI_inv hB
  refine q_goiF (va_runV (As := [.int x1]) (rest := []) C (cr_isWave hc _) (cwV 1 hts gX11_spread_X11_isWave rfl rfl rfl (by decide +kernel) ⟨Nat.le_of_ble_eq_true rfl, Nat.le_of_ble_eq_true rfl⟩) (q_preV hK hP (ci := 11) (q0 := 0) rfl rfl rfl (q_preF hN hK hP hD)) rfl rfl hl.1 rfl (lv_room (Nat.le_of_ble_eq_true rfl)) dX11_spread_2 ⟨Nat.le_of_ble_eq_true rfl, Nat.le_of_ble_eq_true rfl⟩) hD hS hA (fun r2 w1 H locs hw hP hD hS => ?_)
  obtain ⟨hq_, hw⟩ := hw; subst hw; subst hq_
  refine lv_if_ne (tgt := 10) hx hb dX11_spread_5 (by decide) (fun c3 => ?_) (fun c3 => ?_)
  · have hB := if_n hB c3
    refine lv_aload_n hx hb dX11_spread_10 rfl (lv_at hl 0 rfl) ?_
    obtain ⟨s4, hc, hB⟩ := bindP_inv hB
    refine q_govF (va_runV (As := []) (rest := []) C (cr_copies hc _) (cwV 0 hts gX11_spread_X11_copies rfl rfl rfl (by decide +kernel) ⟨Nat.le_of_ble_eq_true rfl, Nat.le_of_ble_eq_true rfl⟩) (q_preV hK hP (ci := 11) (q0 := 0) rfl rfl rfl (q_preF hN hK hP hD)) rfl rfl hl.1 rfl (lv_room (Nat.le_of_ble_eq_true rfl)) dX11_spread_11 ⟨Nat.le_of_ble_eq_true rfl, Nat.le_of_ble_eq_true rfl⟩) hD hS hA (fun w1 H locs hw hP hD hS => ?_)
    subst hw
    refine lv_iconst (v := 0) hx hb dX11_spread_14 (by decide) ?_
    refine lv_istore_n (lv' := [(2, .int 0), (0, .ref h), (1, .int x1)]) hx hb dX11_spread_15 rfl hl (by decide) rfl (fun ls hl => ?_)
    refine lv_bipush (v := 10) hx hb dX11_spread_16 (by decide) ?_
    refine lv_istore_n (lv' := [(3, .int 10), (2, .int 0), (0, .ref h), (1, .int x1)]) hx hb dX11_spread_18 rfl hl (by decide) rfl (fun ls hl => ?_)
    refine lv_iconst (v := 0) hx hb dX11_spread_19 (by decide) ?_
    refine lv_istore (lv' := [(4, .int 0), (3, .int 10), (2, .int 0), (0, .ref h), (1, .int x1)]) hx hb dX11_spread_20 hl (by decide) rfl (fun ls hl => ?_)
    exact br_spread_22L fu _ _ _ _ _ hB p e s0 m below meth c A E H locs ls hP hD hS (lv_sub hl [3, 4, 2, 1, 0] rfl)
  · have hB := if_p hB c3
    refine lv_iconst (v := (-1)) hx hb dX11_spread_8 (by decide) ?_
    exact q_iret C hr hlocks hK hP hD hS (Nat.le_of_ble_eq_true rfl) (Nat.le_of_ble_eq_true rfl) dX11_spread_9 (by cases hB; exact ⟨rfl, rfl⟩)
theorem cr_spread {l : Launch} {dC : Nat → ClassId} {dI : Nat → Nat → Nat} {cB cI cJ cZ cS : ClassId} {h : Nat} {a : Nat → Nat} {r : Int32} {s' : RS} {s : RS} {x1 : Int32} (hB : r_spread s x1 = some (r, s')) : CI l yX11_spread wsX11_spread ({ frames := 3, cells := 0, slots := 0, locals := 67 }) (dC, dI) (tysA cB cI cJ cZ cS) (mwS cB cI cJ cZ h a s) [.ref h, .int x1] (fun x u => x = r ∧ u = (mwS cB cI cJ cZ h a s')) :=
  CI_of (cc := cX11_spread) (maxL := 5) (ret := (some .int)) (by decide) rfl (Nat.le_of_ble_eq_true rfl) (br_spread _ _ hB)
theorem LX11_dearest_215 : Cond.fieldLink RX11 215 "GuessFerryModel" "live" "I" ∈ wsX11_dearest := (List.mem_cons_of_mem _ (List.mem_append_left _ (List.mem_append_left _ (List.mem_of_getElem? (i := 1) rfl))))
theorem LX11_dearest_49 : Cond.fieldLink RX11 49 "GuessFerryModel" "parties" "[I" ∈ wsX11_dearest := (List.mem_cons_of_mem _ (List.mem_append_left _ (List.mem_append_left _ (List.mem_of_getElem? (i := 0) rfl))))
theorem inX11_dearest_X11 : ∀ w ∈ u_ws RX11 TX11 58, w ∈ wsX11_dearest := fun w h => (List.mem_cons_of_mem _ (List.mem_append_right _ h))
set_option maxHeartbeats 4000000 in
set_option maxRecDepth 100000 in
theorem br_dearest_52 {l : Launch} {dC : Nat → ClassId} {dI : Nat → Nat → Nat} {cB cI cJ cZ cS : ClassId} {h : Nat} {a : Nat → Nat} {as : List Value} {r : Int32} {s' : RS} {k20 : RS → Int32 → Int32 → Int32 → Option (Int32 × RS)} (hk20 : ∀ (s : RS) (x1 : Int32) (x2 : Int32) (x3 : Int32), k20 s x1 x2 x3 = some (r, s') → BlkI l yX11_dearest wsX11_dearest ({ frames := 3, cells := 0, slots := 0, locals := 74 }) cX11_dearest 4 (some .int) (dC, dI) (tysA cB cI cJ cZ cS) as 20 (mwS cB cI cJ cZ h a s) [(0, .ref h), (1, .int x1), (2, .int x2), (3, .int x3)] [] (fun x u => x = r ∧ u = (mwS cB cI cJ cZ h a s'))) (s : RS) (x1 : Int32) (x2 : Int32) (x3 : Int32) (hB : r_dearest_52 k20 s x1 x2 x3 = some (r, s')) : BlkI l yX11_dearest wsX11_dearest ({ frames := 3, cells := 0, slots := 0, locals := 74 }) cX11_dearest 4 (some .int) (dC, dI) (tysA cB cI cJ cZ cS) as 52 (mwS cB cI cJ cZ h a s) [(0, .ref h), (1, .int x1), (2, .int x2), (3, .int x3)] [] (fun x u => x = r ∧ u = (mwS cB cI cJ cZ h a s')) := by
  intro p e s0 m below meth c A E H locs ls hP hD hS hl
  obtain ⟨C, hr, hlocks, hA, hK, hN⟩ := id E
  obtain ⟨hx, hb, hml, hown, hts⟩ := id C
  unfold r_dearest_52 at hB
  refine lv_iinc (v := (x3 + 1)) (lv' := [(3, .int (x3 + 1)), (0, .ref h), (1, .int x1), (2, .int x2)]) hx hb dX11_dearest_52 hl (k := 3) rfl (rfl) (by decide) rfl (fun ls hl => ?_)
  refine lv_goto (tgt := 20) hx hb dX11_dearest_55 (by decide) ?_
  exact hk20 _ _ _ _ hB p e s0 m below meth c A E H locs ls hP hD hS (lv_sub hl [1, 2, 3, 0] rfl)
set_option maxHeartbeats 4000000 in
set_option maxRecDepth 100000 in
theorem br_dearest_50 {l : Launch} {dC : Nat → ClassId} {dI : Nat → Nat → Nat} {cB cI cJ cZ cS : ClassId} {h : Nat} {a : Nat → Nat} {as : List Value} {r : Int32} {s' : RS} {k20 : RS → Int32 → Int32 → Int32 → Option (Int32 × RS)} (hk20 : ∀ (s : RS) (x1 : Int32) (x2 : Int32) (x3 : Int32), k20 s x1 x2 x3 = some (r, s') → BlkI l yX11_dearest wsX11_dearest ({ frames := 3, cells := 0, slots := 0, locals := 74 }) cX11_dearest 4 (some .int) (dC, dI) (tysA cB cI cJ cZ cS) as 20 (mwS cB cI cJ cZ h a s) [(0, .ref h), (1, .int x1), (2, .int x2), (3, .int x3)] [] (fun x u => x = r ∧ u = (mwS cB cI cJ cZ h a s'))) (s : RS) (x1 : Int32) (x3 : Int32) (hB : r_dearest_50 k20 s x1 x3 = some (r, s')) : BlkI l yX11_dearest wsX11_dearest ({ frames := 3, cells := 0, slots := 0, locals := 74 }) cX11_dearest 4 (some .int) (dC, dI) (tysA cB cI cJ cZ cS) as 50 (mwS cB cI cJ cZ h a s) [(0, .ref h), (1, .int x1), (3, .int x3)] [] (fun x u => x = r ∧ u = (mwS cB cI cJ cZ h a s')) := by
  intro p e s0 m below meth c A E H locs ls hP hD hS hl
  obtain ⟨C, hr, hlocks, hA, hK, hN⟩ := id E
  obtain ⟨hx, hb, hml, hown, hts⟩ := id C
  unfold r_dearest_50 at hB
  refine lv_iload_n hx hb dX11_dearest_50 rfl (lv_at hl 2 rfl) ?_
  refine lv_istore_n (lv' := [(2, .int x3), (0, .ref h), (1, .int x1), (3, .int x3)]) hx hb dX11_dearest_51 rfl hl (by decide) rfl (fun ls hl => ?_)
  exact br_dearest_52 (hk20) _ _ _ _ hB p e s0 m below meth c A E H locs ls hP hD hS (lv_sub hl [1, 2, 0, 3] rfl)
set_option maxHeartbeats 4000000 in
set_option maxRecDepth 100000 in
theorem br_dearest_20 {l : Launch} {dC : Nat → ClassId} {dI : Nat → Nat → Nat} {cB cI cJ cZ cS : ClassId} {h : Nat} {a : Nat → Nat} {as : List Value} {r : Int32} {s' : RS} {k20 : RS → Int32 → Int32 → Int32 → Option (Int32 × RS)} (hk20 : ∀ (s : RS) (x1 : Int32) (x2 : Int32) (x3 : Int32), k20 s x1 x2 x3 = some (r, s') → BlkI l yX11_dearest wsX11_dearest ({ frames := 3, cells := 0, slots := 0, locals := 74 }) cX11_dearest 4 (some .int) (dC, dI) (tysA cB cI cJ cZ cS) as 20 (mwS cB cI cJ cZ h a s) [(0, .ref h), (1, .int x1), (2, .int x2), (3, .int x3)] [] (fun x u => x = r ∧ u = (mwS cB cI cJ cZ h a s'))) (s : RS) (x1 : Int32) (x2 : Int32) (x3 : Int32) (hB : r_dearest_20 k20 s x1 x2 x3 = some (r, s')) : BlkI l yX11_dearest wsX11_dearest ({ frames := 3, cells := 0, slots := 0, locals := 74 }) cX11_dearest 4 (some .int) (dC, dI) (tysA cB cI cJ cZ cS) as 20 (mwS cB cI cJ cZ h a s) [(0, .ref h), (1, .int x1), (2, .int x2), (3, .int x3)] [] (fun x u => x = r ∧ u = (mwS cB cI cJ cZ h a s')) := by
  intro p e s0 m below meth c A E H locs ls hP hD hS hl
  obtain ⟨C, hr, hlocks, hA, hK, hN⟩ := id E
  obtain ⟨hx, hb, hml, hown, hts⟩ := id C
  unfold r_dearest_20 at hB
  refine lv_iload_n hx hb dX11_dearest_20 rfl (lv_at hl 3 rfl) ?_
  refine lv_aload_n hx hb dX11_dearest_21 rfl (lv_at hl 0 rfl) ?_
  refine q_get (v := .ref (a 23)) C inX11_dearest_X11 hK hP 0 rfl rfl 23 (by decide) rfl LX11_dearest_49 rfl dX11_dearest_22 ?_
  refine lv_aload_n hx hb dX11_dearest_25 rfl (lv_at hl 0 rfl) ?_
  refine q_get (v := .int (s.v 18)) C inX11_dearest_X11 hK hP 0 rfl rfl 18 (by decide) rfl LX11_dearest_215 rfl dX11_dearest_26 ?_
  obtain ⟨g1, hB⟩ := guard_inv hB
  refine q_iald (x := (s.f 23 (Int32.toNatClampNeg (s.v 18)))) C hK hP 11 1 rfl rfl (vpb_in g1) dX11_dearest_29 rfl ?_
  refine lv_icmp_ge (tgt := 58) hx hb dX11_dearest_30 (by decide) (fun c2 => ?_) (fun c2 => ?_)
  · have hB := if_p hB c2
    refine lv_iload_n hx hb dX11_dearest_58 rfl (lv_at hl 2 rfl) ?_
    refine lv_if_lt (tgt := 66) hx hb dX11_dearest_59 (by decide) (fun c3 => ?_) (fun c3 => ?_)
    · have hB := if_p hB c3
      refine lv_iload_n hx hb dX11_dearest_66 rfl (lv_at hl 2 rfl) ?_
      refine lv_goto (tgt := 75) hx hb dX11_dearest_67 (by decide) ?_
      exact q_iret C hr hlocks hK hP hD hS (Nat.le_of_ble_eq_true rfl) (Nat.le_of_ble_eq_true rfl) dX11_dearest_75 (by cases hB; exact ⟨rfl, rfl⟩)
    · have hB := if_n hB c3
      refine lv_iload_n hx hb dX11_dearest_62 rfl (lv_at hl 1 rfl) ?_
      refine lv_if_ne (tgt := 70) hx hb dX11_dearest_63 (by decide) (fun c4 => ?_) (fun c4 => ?_)
      · have hB := if_n hB c4
        refine lv_aload_n hx hb dX11_dearest_70 rfl (lv_at hl 0 rfl) ?_
        refine lv_iload_n hx hb dX11_dearest_71 rfl (lv_at hl 2 rfl) ?_
        obtain ⟨q_, s5, hc, hB⟩ := bindI_inv hB
        refine q_goiF (va_runV (As := [.int x2]) (rest := []) C (cr_faresOf hc _) (cwV 1 hts gX11_dearest_X11_faresOf rfl rfl rfl (by decide +kernel) ⟨Nat.le_of_ble_eq_true rfl, Nat.le_of_ble_eq_true rfl⟩) (q_preV hK hP (ci := 11) (q0 := 0) rfl rfl rfl (q_preF hN hK hP hD)) rfl rfl hl.1 rfl (lv_room (Nat.le_of_ble_eq_true rfl)) dX11_dearest_72 ⟨Nat.le_of_ble_eq_true rfl, Nat.le_of_ble_eq_true rfl⟩) hD hS hA (fun r6 w1 H locs hw hP hD hS => ?_)
        obtain ⟨hq_, hw⟩ := hw; subst hw; subst hq_
        exact q_iret C hr hlocks hK hP hD hS (Nat.le_of_ble_eq_true rfl) (Nat.le_of_ble_eq_true rfl) dX11_dearest_75 (by cases hB; exact ⟨rfl, rfl⟩)
      · have hB := if_p hB c4
        refine lv_iload_n hx hb dX11_dearest_66 rfl (lv_at hl 2 rfl) ?_
        refine lv_goto (tgt := 75) hx hb dX11_dearest_67 (by decide) ?_
        exact q_iret C hr hlocks hK hP hD hS (Nat.le_of_ble_eq_true rfl) (Nat.le_of_ble_eq_true rfl) dX11_dearest_75 (by cases hB; exact ⟨rfl, rfl⟩)
  · have hB := if_n hB c2
    refine lv_iload_n hx hb dX11_dearest_33 rfl (lv_at hl 2 rfl) ?_
    refine lv_if_lt (tgt := 50) hx hb dX11_dearest_34 (by decide) (fun c7 => ?_) (fun c7 => ?_)
    · have hB := if_p hB c7
      exact br_dearest_50 (hk20) _ _ _ hB p e s0 m below meth c A E H locs ls hP hD hS (lv_sub hl [0, 1, 3] rfl)
    · have hB := if_n hB c7
      refine lv_aload_n hx hb dX11_dearest_37 rfl (lv_at hl 0 rfl) ?_
      refine lv_iload_n hx hb dX11_dearest_38 rfl (lv_at hl 3 rfl) ?_
      obtain ⟨q_, s8, hc, hB⟩ := bindI_inv hB
      refine q_goiF (va_runV (As := [.int x3]) (rest := []) C (cr_faresOf hc _) (cwV 1 hts gX11_dearest_X11_faresOf rfl rfl rfl (by decide +kernel) ⟨Nat.le_of_ble_eq_true rfl, Nat.le_of_ble_eq_true rfl⟩) (q_preV hK hP (ci := 11) (q0 := 0) rfl rfl rfl (q_preF hN hK hP hD)) rfl rfl hl.1 rfl (lv_room (Nat.le_of_ble_eq_true rfl)) dX11_dearest_39 ⟨Nat.le_of_ble_eq_true rfl, Nat.le_of_ble_eq_true rfl⟩) hD hS hA (fun r9 w1 H locs hw hP hD hS => ?_)
      obtain ⟨hq_, hw⟩ := hw; subst hw; subst hq_
      refine lv_aload_n hx hb dX11_dearest_42 rfl (lv_at hl 0 rfl) ?_
      refine lv_iload_n hx hb dX11_dearest_43 rfl (lv_at hl 2 rfl) ?_
      obtain ⟨q_, s10, hc, hB⟩ := bindI_inv hB
      refine q_goiF (va_runV (As := [.int x2]) (rest := [.int r9]) C (cr_faresOf hc _) (cwV 1 hts gX11_dearest_X11_faresOf rfl rfl rfl (by decide +kernel) ⟨Nat.le_of_ble_eq_true rfl, Nat.le_of_ble_eq_true rfl⟩) (q_preV hK hP (ci := 11) (q0 := 0) rfl rfl rfl (q_preF hN hK hP hD)) rfl rfl hl.1 rfl (lv_room (Nat.le_of_ble_eq_true rfl)) dX11_dearest_44 ⟨Nat.le_of_ble_eq_true rfl, Nat.le_of_ble_eq_true rfl⟩) hD hS hA (fun r11 w1 H locs hw hP hD hS => ?_)
      obtain ⟨hq_, hw⟩ := hw; subst hw; subst hq_
      refine lv_icmp_le (tgt := 52) hx hb dX11_dearest_47 (by decide) (fun c12 => ?_) (fun c12 => ?_)
      · have hB := if_p hB c12
        exact br_dearest_52 (hk20) _ _ _ _ hB p e s0 m below meth c A E H locs ls hP hD hS (lv_sub hl [0, 1, 2, 3] rfl)
      · have hB := if_n hB c12
        exact br_dearest_50 (hk20) _ _ _ hB p e s0 m below meth c A E H locs ls hP hD hS (lv_sub hl [0, 1, 3] rfl)
theorem br_dearest_20L {l : Launch} {dC : Nat → ClassId} {dI : Nat → Nat → Nat} {cB cI cJ cZ cS : ClassId} {h : Nat} {a : Nat → Nat} {as : List Value} {r : Int32} {s' : RS} : ∀ (n : Nat) (s : RS) (x1 : Int32) (x2 : Int32) (x3 : Int32), r_dearest_20L n s x1 x2 x3 = some (r, s') → BlkI l yX11_dearest wsX11_dearest ({ frames := 3, cells := 0, slots := 0, locals := 74 }) cX11_dearest 4 (some .int) (dC, dI) (tysA cB cI cJ cZ cS) as 20 (mwS cB cI cJ cZ h a s) [(0, .ref h), (1, .int x1), (2, .int x2), (3, .int x3)] [] (fun x u => x = r ∧ u = (mwS cB cI cJ cZ h a s')) := by
  intro n
  induction n with
  | zero => intro s x1 x2 x3 hB; exact none_ne hB
  | succ n ih => intro s x1 x2 x3 hB; exact br_dearest_20 ih _ _ _ _ hB
set_option maxHeartbeats 4000000 in
set_option maxRecDepth 100000 in
theorem br_dearest {l : Launch} {dC : Nat → ClassId} {dI : Nat → Nat → Nat} {cB cI cJ cZ cS : ClassId} {h : Nat} {a : Nat → Nat} {as : List Value} {r : Int32} {s' : RS} (s : RS) (x1 : Int32) (hB : r_dearest s x1 = some (r, s')) : BlkI l yX11_dearest wsX11_dearest ({ frames := 3, cells := 0, slots := 0, locals := 74 }) cX11_dearest 4 (some .int) (dC, dI) (tysA cB cI cJ cZ cS) as 0 (mwS cB cI cJ cZ h a s) [(0, .ref h), (1, .int x1)] [] (fun x u => x = r ∧ u = (mwS cB cI cJ cZ h a s')) := by
  intro p e s0 m below meth c A E H locs ls hP hD hS hl
  obtain ⟨C, hr, hlocks, hA, hK, hN⟩ := id E
  obtain ⟨hx, hb, hml, hown, hts⟩ := id C
  unfold r_dearest at hB
  refine lv_iload_n hx hb dX11_dearest_0 rfl (lv_at hl 1 rfl) ?_
  refine lv_iconst (v := 0) hx hb dX11_dearest_1 (by decide) ?_
  refine lv_iconst (v := 1) hx hb dX11_dearest_2 (by decide) ?_
  obtain ⟨q_, hc, hB⟩ := bindP_inv hB
  refine q_goi0 (va_runS (As := [.int x1, .int 0, .int 1]) (rest := []) C (cr_in hc _) (va_cwS 3 hts gX11_dearest_X11_in rfl rfl rfl (by decide +kernel) ⟨Nat.le_of_ble_eq_true rfl, Nat.le_of_ble_eq_true rfl⟩) (q_pre0 hN hK) rfl rfl hl.1 rfl (lv_room (Nat.le_of_ble_eq_true rfl)) dX11_dearest_3 ⟨Nat.le_of_ble_eq_true rfl, Nat.le_of_ble_eq_true rfl⟩) hP hD hS hA (fun r1 w1 H locs hw hP hS => ?_)
  subst hw
  refine lv_if_ne (tgt := 11) hx hb dX11_dearest_6 (by decide) (fun c2 => ?_) (fun c2 => ?_)
  · have hB := if_n hB c2
    refine lv_aload_n hx hb dX11_dearest_11 rfl (lv_at hl 0 rfl) ?_
    obtain ⟨s3, hc, hB⟩ := bindP_inv hB
    refine q_govF (va_runV (As := []) (rest := []) C (cr_copies hc _) (cwV 0 hts gX11_dearest_X11_copies rfl rfl rfl (by decide +kernel) ⟨Nat.le_of_ble_eq_true rfl, Nat.le_of_ble_eq_true rfl⟩) (q_preV hK hP (ci := 11) (q0 := 0) rfl rfl rfl (q_preF hN hK hP hD)) rfl rfl hl.1 rfl (lv_room (Nat.le_of_ble_eq_true rfl)) dX11_dearest_12 ⟨Nat.le_of_ble_eq_true rfl, Nat.le_of_ble_eq_true rfl⟩) hD hS hA (fun w1 H locs hw hP hD hS => ?_)
    subst hw
    refine lv_bipush (v := (-2)) hx hb dX11_dearest_15 (by decide) ?_
    refine lv_istore_n (lv' := [(2, .int (-2)), (0, .ref h), (1, .int x1)]) hx hb dX11_dearest_17 rfl hl (by decide) rfl (fun ls hl => ?_)
    refine lv_iconst (v := 0) hx hb dX11_dearest_18 (by decide) ?_
    refine lv_istore_n (lv' := [(3, .int 0), (2, .int (-2)), (0, .ref h), (1, .int x1)]) hx hb dX11_dearest_19 rfl hl (by decide) rfl (fun ls hl => ?_)
    exact br_dearest_20L fu _ _ _ _ hB p e s0 m below meth c A E H locs ls hP hD hS (lv_sub hl [2, 3, 1, 0] rfl)
  · have hB := if_p hB c2
    refine lv_iconst (v := (-1)) hx hb dX11_dearest_9 (by decide) ?_
    exact q_iret C hr hlocks hK hP hD hS (Nat.le_of_ble_eq_true rfl) (Nat.le_of_ble_eq_true rfl) dX11_dearest_10 (by cases hB; exact ⟨rfl, rfl⟩)
theorem cr_dearest {l : Launch} {dC : Nat → ClassId} {dI : Nat → Nat → Nat} {cB cI cJ cZ cS : ClassId} {h : Nat} {a : Nat → Nat} {r : Int32} {s' : RS} {s : RS} {x1 : Int32} (hB : r_dearest s x1 = some (r, s')) : CI l yX11_dearest wsX11_dearest ({ frames := 3, cells := 0, slots := 0, locals := 74 }) (dC, dI) (tysA cB cI cJ cZ cS) (mwS cB cI cJ cZ h a s) [.ref h, .int x1] (fun x u => x = r ∧ u = (mwS cB cI cJ cZ h a s')) :=
  CI_of (cc := cX11_dearest) (maxL := 4) (ret := (some .int)) (by decide) rfl (Nat.le_of_ble_eq_true rfl) (br_dearest _ _ hB)
end
