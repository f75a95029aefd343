theorem ggX11_then_X11_isWave : GoodIn wsX11_then wsX11_isWave := gi_sub (fun w h => List.mem_cons_of_mem _ (List.mem_append_left _ (List.mem_append_right _ (List.mem_append_left _ h)))) gd_wsX11_isWave
set_option maxRecDepth 20000 in
theorem gX11_then_X11_isWave : GoodIn wsX11_then (wsV RX11 349 RX11 yX11_isWave wsX11_isWave) := goodIn_app (goodIn_r _ [2, 3, 4, 5] (by decide +kernel) (by decide +kernel)) ggX11_then_X11_isWave
theorem ggX11_then_X11_isLong : GoodIn wsX11_then wsX11_isLong := gi_sub (fun w h => List.mem_cons_of_mem _ (List.mem_append_left _ (List.mem_append_right _ (List.mem_append_right _ (List.mem_append_left _ h))))) gd_wsX11_isLong
set_option maxRecDepth 20000 in
theorem gX11_then_X11_isLong : GoodIn wsX11_then (va_wsS RX11 379 yX11_isLong wsX11_isLong) := goodIn_app (goodIn_of _ (by decide +kernel)) ggX11_then_X11_isLong
theorem ggX11_then_X11_in : GoodIn wsX11_then wsX11_in := gi_sub (fun w h => List.mem_cons_of_mem _ (List.mem_append_left _ (List.mem_append_right _ (List.mem_append_right _ (List.mem_append_right _ (List.mem_append_left _ h)))))) gd_wsX11_in
set_option maxRecDepth 20000 in
theorem gX11_then_X11_in : GoodIn wsX11_then (va_wsS RX11 281 yX11_in wsX11_in) := goodIn_app (goodIn_of _ (by decide +kernel)) ggX11_then_X11_in
theorem ggX11_then_X11_copies : GoodIn wsX11_then wsX11_copies := gi_sub (fun w h => List.mem_cons_of_mem _ (List.mem_append_left _ (List.mem_append_right _ (List.mem_append_right _ (List.mem_append_right _ (List.mem_append_right _ (List.mem_append_left _ h))))))) gd_wsX11_copies
set_option maxRecDepth 20000 in
theorem gX11_then_X11_copies : GoodIn wsX11_then (wsV RX11 352 RX11 yX11_copies wsX11_copies) := goodIn_app (goodIn_r _ [10, 11, 12, 5] (by decide +kernel) (by decide +kernel)) ggX11_then_X11_copies
theorem ggX11_then_X11_yearsGo : GoodIn wsX11_then wsX11_yearsGo := gi_sub (fun w h => List.mem_cons_of_mem _ (List.mem_append_left _ (List.mem_append_right _ (List.mem_append_right _ (List.mem_append_right _ (List.mem_append_right _ (List.mem_append_right _ (List.mem_append_left _ h)))))))) gd_wsX11_yearsGo
set_option maxRecDepth 20000 in
theorem gX11_then_X11_yearsGo : GoodIn wsX11_then (wsV RX11 382 RX11 yX11_yearsGo wsX11_yearsGo) := goodIn_app (goodIn_r _ [13, 14, 15, 5] (by decide +kernel) (by decide +kernel)) ggX11_then_X11_yearsGo
theorem ggX11_then_X11_mayAt : GoodIn wsX11_then wsX11_mayAt := gi_sub (fun w h => List.mem_cons_of_mem _ (List.mem_append_left _ (List.mem_append_right _ (List.mem_append_right _ (List.mem_append_right _ (List.mem_append_right _ (List.mem_append_right _ (List.mem_append_right _ (List.mem_append_left _ h))))))))) gd_wsX11_mayAt
set_option maxRecDepth 20000 in
theorem gX11_then_X11_mayAt : GoodIn wsX11_then (wsV RX11 309 RX11 yX11_mayAt wsX11_mayAt) := goodIn_app (goodIn_r _ [16, 17, 18, 5] (by decide +kernel) (by decide +kernel)) ggX11_then_X11_mayAt
theorem ggX11_then_X11_thereAt : GoodIn wsX11_then wsX11_thereAt := gi_sub (fun w h => List.mem_cons_of_mem _ (List.mem_append_left _ (List.mem_append_right _ (List.mem_append_right _ (List.mem_append_right _ (List.mem_append_right _ (List.mem_append_right _ (List.mem_append_right _ (List.mem_append_right _ h))))))))) gd_wsX11_thereAt
set_option maxRecDepth 20000 in
theorem gX11_then_X11_thereAt : GoodIn wsX11_then (wsV RX11 303 RX11 yX11_thereAt wsX11_thereAt) := goodIn_app (goodIn_r _ [19, 20, 21, 5] (by decide +kernel) (by decide +kernel)) ggX11_then_X11_thereAt
theorem dX11_then_0 : decode cX11_then 0 = .ok (.aload_n 0, 1) := dc1_42 (by decide +kernel)
theorem dX11_then_1 : decode cX11_then 1 = .ok (.iload_n 1, 1) := dc1_27 (by decide +kernel)
theorem dX11_then_2 : decode cX11_then 2 = .ok (.invokevirtual 349, 3) := dcw_182 (by decide +kernel)
theorem dX11_then_5 : decode cX11_then 5 = .ok (.ifCond .eq 19, 3) := dcs_153 (n := 19) (by decide +kernel)
theorem dX11_then_8 : decode cX11_then 8 = .ok (.iload_n 2, 1) := dc1_28 (by decide +kernel)
theorem dX11_then_9 : decode cX11_then 9 = .ok (.invokestatic 379, 3) := dcw_184 (by decide +kernel)
theorem dX11_then_12 : decode cX11_then 12 = .ok (.ifCond .eq 12, 3) := dcs_153 (n := 12) (by decide +kernel)
theorem dX11_then_15 : decode cX11_then 15 = .ok (.iload_n 3, 1) := dc1_29 (by decide +kernel)
theorem dX11_then_16 : decode cX11_then 16 = .ok (.iconst 0, 1) := dc1_3 (by decide +kernel)
theorem dX11_then_17 : decode cX11_then 17 = .ok (.iconst 2, 1) := dc1_5 (by decide +kernel)
theorem dX11_then_18 : decode cX11_then 18 = .ok (.invokestatic 281, 3) := dcw_184 (by decide +kernel)
theorem dX11_then_21 : decode cX11_then 21 = .ok (.ifCond .ne 5, 3) := dcs_154 (n := 5) (by decide +kernel)
theorem dX11_then_24 : decode cX11_then 24 = .ok (.iconst (-1), 1) := dc1_2 (by decide +kernel)
theorem dX11_then_25 : decode cX11_then 25 = .ok (.ireturn, 1) := dc1_172 (by decide +kernel)
theorem dX11_then_26 : decode cX11_then 26 = .ok (.aload_n 0, 1) := dc1_42 (by decide +kernel)
theorem dX11_then_27 : decode cX11_then 27 = .ok (.invokevirtual 352, 3) := dcw_182 (by decide +kernel)
theorem dX11_then_30 : decode cX11_then 30 = .ok (.aload_n 0, 1) := dc1_42 (by decide +kernel)
theorem dX11_then_31 : decode cX11_then 31 = .ok (.iload_n 2, 1) := dc1_28 (by decide +kernel)
theorem dX11_then_32 : decode cX11_then 32 = .ok (.invokevirtual 382, 3) := dcw_182 (by decide +kernel)
theorem dX11_then_35 : decode cX11_then 35 = .ok (.iload_n 3, 1) := dc1_29 (by decide +kernel)
theorem dX11_then_36 : decode cX11_then 36 = .ok (.ifCond .ne 11, 3) := dcs_154 (n := 11) (by decide +kernel)
theorem dX11_then_39 : decode cX11_then 39 = .ok (.aload_n 0, 1) := dc1_42 (by decide +kernel)
theorem dX11_then_40 : decode cX11_then 40 = .ok (.iload_n 1, 1) := dc1_27 (by decide +kernel)
theorem dX11_then_41 : decode cX11_then 41 = .ok (.invokevirtual 309, 3) := dcw_182 (by decide +kernel)
theorem dX11_then_44 : decode cX11_then 44 = .ok (.goto 25, 3) := dcs_167 (n := 25) (by decide +kernel)
theorem dX11_then_47 : decode cX11_then 47 = .ok (.iload_n 3, 1) := dc1_29 (by decide +kernel)
theorem dX11_then_48 : decode cX11_then 48 = .ok (.iconst 1, 1) := dc1_4 (by decide +kernel)
theorem dX11_then_49 : decode cX11_then 49 = .ok (.if_icmp .ne 15, 3) := dcs_160 (n := 15) (by decide +kernel)
theorem dX11_then_52 : decode cX11_then 52 = .ok (.aload_n 0, 1) := dc1_42 (by decide +kernel)
theorem dX11_then_53 : decode cX11_then 53 = .ok (.getfield 101, 3) := dcw_180 (by decide +kernel)
theorem dX11_then_56 : decode cX11_then 56 = .ok (.bipush 10, 2) := dcb_16 (n := 10) (by decide +kernel)
theorem dX11_then_58 : decode cX11_then 58 = .ok (.iload_n 1, 1) := dc1_27 (by decide +kernel)
theorem dX11_then_59 : decode cX11_then 59 = .ok (.iadd, 1) := dc1_96 (by decide +kernel)
theorem dX11_then_60 : decode cX11_then 60 = .ok (.iaload, 1) := dc1_46 (by decide +kernel)
theorem dX11_then_61 : decode cX11_then 61 = .ok (.goto 8, 3) := dcs_167 (n := 8) (by decide +kernel)
theorem dX11_then_64 : decode cX11_then 64 = .ok (.aload_n 0, 1) := dc1_42 (by decide +kernel)
theorem dX11_then_65 : decode cX11_then 65 = .ok (.iload_n 1, 1) := dc1_27 (by decide +kernel)
theorem dX11_then_66 : decode cX11_then 66 = .ok (.invokevirtual 303, 3) := dcw_182 (by decide +kernel)
theorem dX11_then_69 : decode cX11_then 69 = .ok (.ireturn, 1) := dc1_172 (by decide +kernel)
theorem ggX11_next_X11_isWave : GoodIn wsX11_next wsX11_isWave := gi_sub (fun w h => List.mem_cons_of_mem _ (List.mem_append_left _ (List.mem_append_right _ (List.mem_append_left _ h)))) gd_wsX11_isWave
set_option maxRecDepth 20000 in
theorem gX11_next_X11_isWave : GoodIn wsX11_next (wsV RX11 349 RX11 yX11_isWave wsX11_isWave) := goodIn_app (goodIn_r _ [3, 4, 5, 6] (by decide +kernel) (by decide +kernel)) ggX11_next_X11_isWave
theorem ggX11_next_X11_copies : GoodIn wsX11_next wsX11_copies := gi_sub (fun w h => List.mem_cons_of_mem _ (List.mem_append_left _ (List.mem_append_right _ (List.mem_append_right _ (List.mem_append_left _ h))))) gd_wsX11_copies
set_option maxRecDepth 20000 in
theorem gX11_next_X11_copies : GoodIn wsX11_next (wsV RX11 352 RX11 yX11_copies wsX11_copies) := goodIn_app (goodIn_r _ [7, 8, 9, 6] (by decide +kernel) (by decide +kernel)) ggX11_next_X11_copies
theorem ggX11_next_X11_yearGoes : GoodIn wsX11_next wsX11_yearGoes := gi_sub (fun w h => List.mem_cons_of_mem _ (List.mem_append_left _ (List.mem_append_right _ (List.mem_append_right _ (List.mem_append_right _ h))))) gd_wsX11_yearGoes
set_option maxRecDepth 20000 in
theorem gX11_next_X11_yearGoes : GoodIn wsX11_next (wsV RX11 346 RX11 yX11_yearGoes wsX11_yearGoes) := goodIn_app (goodIn_r _ [10, 11, 12, 6] (by decide +kernel) (by decide +kernel)) ggX11_next_X11_yearGoes
theorem dX11_next_0 : decode cX11_next 0 = .ok (.aload_n 0, 1) := dc1_42 (by decide +kernel)
theorem dX11_next_1 : decode cX11_next 1 = .ok (.iload_n 1, 1) := dc1_27 (by decide +kernel)
theorem dX11_next_2 : decode cX11_next 2 = .ok (.invokevirtual 349, 3) := dcw_182 (by decide +kernel)
theorem dX11_next_5 : decode cX11_next 5 = .ok (.ifCond .ne 5, 3) := dcs_154 (n := 5) (by decide +kernel)
theorem dX11_next_8 : decode cX11_next 8 = .ok (.iconst (-1), 1) := dc1_2 (by decide +kernel)
theorem dX11_next_9 : decode cX11_next 9 = .ok (.ireturn, 1) := dc1_172 (by decide +kernel)
theorem dX11_next_10 : decode cX11_next 10 = .ok (.aload_n 0, 1) := dc1_42 (by decide +kernel)
theorem dX11_next_11 : decode cX11_next 11 = .ok (.invokevirtual 352, 3) := dcw_182 (by decide +kernel)
theorem dX11_next_14 : decode cX11_next 14 = .ok (.iconst 1, 1) := dc1_4 (by decide +kernel)
theorem dX11_next_15 : decode cX11_next 15 = .ok (.istore_n 2, 1) := dc1_61 (by decide +kernel)
theorem dX11_next_16 : decode cX11_next 16 = .ok (.iload_n 2, 1) := dc1_28 (by decide +kernel)
theorem dX11_next_17 : decode cX11_next 17 = .ok (.bipush 40, 2) := dcb_16 (n := 40) (by decide +kernel)
theorem dX11_next_19 : decode cX11_next 19 = .ok (.if_icmp .gt 36, 3) := dcs_163 (n := 36) (by decide +kernel)
theorem dX11_next_22 : decode cX11_next 22 = .ok (.aload_n 0, 1) := dc1_42 (by decide +kernel)
theorem dX11_next_23 : decode cX11_next 23 = .ok (.invokevirtual 346, 3) := dcw_182 (by decide +kernel)
theorem dX11_next_26 : decode cX11_next 26 = .ok (.aload_n 0, 1) := dc1_42 (by decide +kernel)
theorem dX11_next_27 : decode cX11_next 27 = .ok (.getfield 101, 3) := dcw_180 (by decide +kernel)
theorem dX11_next_30 : decode cX11_next 30 = .ok (.bipush 10, 2) := dcb_16 (n := 10) (by decide +kernel)
theorem dX11_next_32 : decode cX11_next 32 = .ok (.iload_n 1, 1) := dc1_27 (by decide +kernel)
theorem dX11_next_33 : decode cX11_next 33 = .ok (.iadd, 1) := dc1_96 (by decide +kernel)
theorem dX11_next_34 : decode cX11_next 34 = .ok (.iaload, 1) := dc1_46 (by decide +kernel)
theorem dX11_next_35 : decode cX11_next 35 = .ok (.aload_n 0, 1) := dc1_42 (by decide +kernel)
theorem dX11_next_36 : decode cX11_next 36 = .ok (.getfield 98, 3) := dcw_180 (by decide +kernel)
theorem dX11_next_39 : decode cX11_next 39 = .ok (.bipush 10, 2) := dcb_16 (n := 10) (by decide +kernel)
theorem dX11_next_41 : decode cX11_next 41 = .ok (.iload_n 1, 1) := dc1_27 (by decide +kernel)
theorem dX11_next_42 : decode cX11_next 42 = .ok (.iadd, 1) := dc1_96 (by decide +kernel)
theorem dX11_next_43 : decode cX11_next 43 = .ok (.iaload, 1) := dc1_46 (by decide +kernel)
theorem dX11_next_44 : decode cX11_next 44 = .ok (.if_icmp .le 5, 3) := dcs_164 (n := 5) (by decide +kernel)
theorem dX11_next_47 : decode cX11_next 47 = .ok (.iload_n 2, 1) := dc1_28 (by decide +kernel)
theorem dX11_next_48 : decode cX11_next 48 = .ok (.ireturn, 1) := dc1_172 (by decide +kernel)
theorem dX11_next_49 : decode cX11_next 49 = .ok (.iinc 2 1, 3) := dc_iinc (m := 1) (by decide +kernel)
theorem dX11_next_52 : decode cX11_next 52 = .ok (.goto (-36), 3) := dcs_167 (n := 65500) (by decide +kernel)
theorem dX11_next_55 : decode cX11_next 55 = .ok (.bipush (-2), 2) := dcb_16 (n := 254) (by decide +kernel)
theorem dX11_next_57 : decode cX11_next 57 = .ok (.ireturn, 1) := dc1_172 (by decide +kernel)
theorem ggX11_year_X11_isGuess : GoodIn wsX11_year wsX11_isGuess := gi_sub (fun w h => List.mem_cons_of_mem _ (List.mem_append_left _ (List.mem_append_right _ (List.mem_append_left _ h)))) gd_wsX11_isGuess
set_option maxRecDepth 20000 in
theorem gX11_year_X11_isGuess : GoodIn wsX11_year (wsV RX11 367 RX11 yX11_isGuess wsX11_isGuess) := goodIn_app (goodIn_r _ [2, 3, 4, 5] (by decide +kernel) (by decide +kernel)) ggX11_year_X11_isGuess
theorem ggX11_year_X11_in : GoodIn wsX11_year wsX11_in := gi_sub (fun w h => List.mem_cons_of_mem _ (List.mem_append_left _ (List.mem_append_right _ (List.mem_append_right _ (List.mem_append_left _ h))))) gd_wsX11_in
set_option maxRecDepth 20000 in
theorem gX11_year_X11_in : GoodIn wsX11_year (va_wsS RX11 281 yX11_in wsX11_in) := goodIn_app (goodIn_of _ (by decide +kernel)) ggX11_year_X11_in
theorem ggX11_year_X11_copies : GoodIn wsX11_year wsX11_copies := gi_sub (fun w h => List.mem_cons_of_mem _ (List.mem_append_left _ (List.mem_append_right _ (List.mem_append_right _ (List.mem_append_right _ (List.mem_append_left _ h)))))) gd_wsX11_copies
set_option maxRecDepth 20000 in
theorem gX11_year_X11_copies : GoodIn wsX11_year (wsV RX11 352 RX11 yX11_copies wsX11_copies) := goodIn_app (goodIn_r _ [8, 9, 10, 5] (by decide +kernel) (by decide +kernel)) ggX11_year_X11_copies
theorem ggX11_year_X11_thereNumber : GoodIn wsX11_year wsX11_thereNumber := gi_sub (fun w h => List.mem_cons_of_mem _ (List.mem_append_left _ (List.mem_append_right _ (List.mem_append_right _ (List.mem_append_right _ (List.mem_append_right _ h)))))) gd_wsX11_thereNumber
set_option maxRecDepth 20000 in
theorem gX11_year_X11_thereNumber : GoodIn wsX11_year (wsV RX11 370 RX11 yX11_thereNumber wsX11_thereNumber) := goodIn_app (goodIn_r _ [11, 12, 13, 5] (by decide +kernel) (by decide +kernel)) ggX11_year_X11_thereNumber
theorem dX11_year_0 : decode cX11_year 0 = .ok (.aload_n 0, 1) := dc1_42 (by decide +kernel)
theorem dX11_year_1 : decode cX11_year 1 = .ok (.iload_n 1, 1) := dc1_27 (by decide +kernel)
theorem dX11_year_2 : decode cX11_year 2 = .ok (.invokevirtual 367, 3) := dcw_182 (by decide +kernel)
theorem dX11_year_5 : decode cX11_year 5 = .ok (.ifCond .eq 13, 3) := dcs_153 (n := 13) (by decide +kernel)
theorem dX11_year_8 : decode cX11_year 8 = .ok (.iload_n 2, 1) := dc1_28 (by decide +kernel)
theorem dX11_year_9 : decode cX11_year 9 = .ok (.iconst 1, 1) := dc1_4 (by decide +kernel)
theorem dX11_year_10 : decode cX11_year 10 = .ok (.bipush 20, 2) := dcb_16 (n := 20) (by decide +kernel)
theorem dX11_year_12 : decode cX11_year 12 = .ok (.invokestatic 281, 3) := dcw_184 (by decide +kernel)
theorem dX11_year_15 : decode cX11_year 15 = .ok (.ifCond .ne 5, 3) := dcs_154 (n := 5) (by decide +kernel)
theorem dX11_year_18 : decode cX11_year 18 = .ok (.iconst (-1), 1) := dc1_2 (by decide +kernel)
theorem dX11_year_19 : decode cX11_year 19 = .ok (.ireturn, 1) := dc1_172 (by decide +kernel)
theorem dX11_year_20 : decode cX11_year 20 = .ok (.aload_n 0, 1) := dc1_42 (by decide +kernel)
theorem dX11_year_21 : decode cX11_year 21 = .ok (.invokevirtual 352, 3) := dcw_182 (by decide +kernel)
theorem dX11_year_24 : decode cX11_year 24 = .ok (.iconst 0, 1) := dc1_3 (by decide +kernel)
theorem dX11_year_25 : decode cX11_year 25 = .ok (.istore_n 3, 1) := dc1_62 (by decide +kernel)
theorem dX11_year_26 : decode cX11_year 26 = .ok (.iconst 0, 1) := dc1_3 (by decide +kernel)
theorem dX11_year_27 : decode cX11_year 27 = .ok (.istore 4, 2) := dcu_54 (by decide +kernel)
theorem dX11_year_29 : decode cX11_year 29 = .ok (.iload 4, 2) := dcu_21 (by decide +kernel)
theorem dX11_year_31 : decode cX11_year 31 = .ok (.iload_n 2, 1) := dc1_28 (by decide +kernel)
theorem dX11_year_32 : decode cX11_year 32 = .ok (.if_icmp .ge 30, 3) := dcs_162 (n := 30) (by decide +kernel)
theorem dX11_year_35 : decode cX11_year 35 = .ok (.aload_n 0, 1) := dc1_42 (by decide +kernel)
theorem dX11_year_36 : decode cX11_year 36 = .ok (.invokevirtual 370, 3) := dcw_182 (by decide +kernel)
theorem dX11_year_39 : decode cX11_year 39 = .ok (.iload_n 1, 1) := dc1_27 (by decide +kernel)
theorem dX11_year_40 : decode cX11_year 40 = .ok (.if_icmp .ne 6, 3) := dcs_160 (n := 6) (by decide +kernel)
theorem dX11_year_43 : decode cX11_year 43 = .ok (.iinc 3 1, 3) := dc_iinc (m := 1) (by decide +kernel)
theorem dX11_year_46 : decode cX11_year 46 = .ok (.aload_n 0, 1) := dc1_42 (by decide +kernel)
theorem dX11_year_47 : decode cX11_year 47 = .ok (.dup, 1) := dc1_89 (by decide +kernel)
theorem dX11_year_48 : decode cX11_year 48 = .ok (.getfield 289, 3) := dcw_180 (by decide +kernel)
theorem dX11_year_51 : decode cX11_year 51 = .ok (.iconst 1, 1) := dc1_4 (by decide +kernel)
theorem dX11_year_52 : decode cX11_year 52 = .ok (.iadd, 1) := dc1_96 (by decide +kernel)
theorem dX11_year_53 : decode cX11_year 53 = .ok (.putfield 289, 3) := dcw_181 (by decide +kernel)
theorem dX11_year_56 : decode cX11_year 56 = .ok (.iinc 4 1, 3) := dc_iinc (m := 1) (by decide +kernel)
theorem dX11_year_59 : decode cX11_year 59 = .ok (.goto (-30), 3) := dcs_167 (n := 65506) (by decide +kernel)
theorem dX11_year_62 : decode cX11_year 62 = .ok (.iload_n 3, 1) := dc1_29 (by decide +kernel)
theorem dX11_year_63 : decode cX11_year 63 = .ok (.ireturn, 1) := dc1_172 (by decide +kernel)
theorem ggX11_drawn_X11_isWave : GoodIn wsX11_drawn wsX11_isWave := gi_sub (fun w h => List.mem_cons_of_mem _ (List.mem_append_left _ (List.mem_append_right _ (List.mem_append_left _ h)))) gd_wsX11_isWave
set_option maxRecDepth 20000 in
theorem gX11_drawn_X11_isWave : GoodIn wsX11_drawn (wsV RX11 349 RX11 yX11_isWave wsX11_isWave) := goodIn_app (goodIn_r _ [2, 3, 4, 5] (by decide +kernel) (by decide +kernel)) ggX11_drawn_X11_isWave
theorem ggX11_drawn_X11_in : GoodIn wsX11_drawn wsX11_in := gi_sub (fun w h => List.mem_cons_of_mem _ (List.mem_append_left _ (List.mem_append_right _ (List.mem_append_right _ (List.mem_append_left _ h))))) gd_wsX11_in
set_option maxRecDepth 20000 in
theorem gX11_drawn_X11_in : GoodIn wsX11_drawn (va_wsS RX11 281 yX11_in wsX11_in) := goodIn_app (goodIn_of _ (by decide +kernel)) ggX11_drawn_X11_in
theorem ggX11_drawn_X11_copies : GoodIn wsX11_drawn wsX11_copies := gi_sub (fun w h => List.mem_cons_of_mem _ (List.mem_append_left _ (List.mem_append_right _ (List.mem_append_right _ (List.mem_append_right _ (List.mem_append_left _ h)))))) gd_wsX11_copies
set_option maxRecDepth 20000 in
theorem gX11_drawn_X11_copies : GoodIn wsX11_drawn (wsV RX11 352 RX11 yX11_copies wsX11_copies) := goodIn_app (goodIn_r _ [8, 9, 10, 5] (by decide +kernel) (by decide +kernel)) ggX11_drawn_X11_copies
theorem ggX11_drawn_X11_thereAt : GoodIn wsX11_drawn wsX11_thereAt := gi_sub (fun w h => List.mem_cons_of_mem _ (List.mem_append_left _ (List.mem_append_right _ (List.mem_append_right _ (List.mem_append_right _ (List.mem_append_right _ (List.mem_append_left _ h))))))) gd_wsX11_thereAt
set_option maxRecDepth 20000 in
theorem gX11_drawn_X11_thereAt : GoodIn wsX11_drawn (wsV RX11 303 RX11 yX11_thereAt wsX11_thereAt) := goodIn_app (goodIn_r _ [11, 12, 13, 5] (by decide +kernel) (by decide +kernel)) ggX11_drawn_X11_thereAt
theorem ggX11_drawn_X11_bits : GoodIn wsX11_drawn wsX11_bits := gi_sub (fun w h => List.mem_cons_of_mem _ (List.mem_append_left _ (List.mem_append_right _ (List.mem_append_right _ (List.mem_append_right _ (List.mem_append_right _ (List.mem_append_right _ h))))))) gd_wsX11_bits
set_option maxRecDepth 20000 in
theorem gX11_drawn_X11_bits : GoodIn wsX11_drawn (va_wsS RX11 312 yX11_bits wsX11_bits) := goodIn_app (goodIn_of _ (by decide +kernel)) ggX11_drawn_X11_bits
theorem dX11_drawn_0 : decode cX11_drawn 0 = .ok (.aload_n 0, 1) := dc1_42 (by decide +kernel)
theorem dX11_drawn_1 : decode cX11_drawn 1 = .ok (.iload_n 1, 1) := dc1_27 (by decide +kernel)
theorem dX11_drawn_2 : decode cX11_drawn 2 = .ok (.invokevirtual 349, 3) := dcw_182 (by decide +kernel)
theorem dX11_drawn_5 : decode cX11_drawn 5 = .ok (.ifCond .eq 13, 3) := dcs_153 (n := 13) (by decide +kernel)
theorem dX11_drawn_8 : decode cX11_drawn 8 = .ok (.iload_n 2, 1) := dc1_28 (by decide +kernel)
theorem dX11_drawn_9 : decode cX11_drawn 9 = .ok (.iconst 1, 1) := dc1_4 (by decide +kernel)
theorem dX11_drawn_10 : decode cX11_drawn 10 = .ok (.bipush 20, 2) := dcb_16 (n := 20) (by decide +kernel)
theorem dX11_drawn_12 : decode cX11_drawn 12 = .ok (.invokestatic 281, 3) := dcw_184 (by decide +kernel)
theorem dX11_drawn_15 : decode cX11_drawn 15 = .ok (.ifCond .ne 5, 3) := dcs_154 (n := 5) (by decide +kernel)
theorem dX11_drawn_18 : decode cX11_drawn 18 = .ok (.iconst (-1), 1) := dc1_2 (by decide +kernel)
theorem dX11_drawn_19 : decode cX11_drawn 19 = .ok (.ireturn, 1) := dc1_172 (by decide +kernel)
theorem dX11_drawn_20 : decode cX11_drawn 20 = .ok (.aload_n 0, 1) := dc1_42 (by decide +kernel)
theorem dX11_drawn_21 : decode cX11_drawn 21 = .ok (.invokevirtual 352, 3) := dcw_182 (by decide +kernel)
theorem dX11_drawn_24 : decode cX11_drawn 24 = .ok (.iconst 0, 1) := dc1_3 (by decide +kernel)
theorem dX11_drawn_25 : decode cX11_drawn 25 = .ok (.istore_n 3, 1) := dc1_62 (by decide +kernel)
theorem dX11_drawn_26 : decode cX11_drawn 26 = .ok (.iconst 0, 1) := dc1_3 (by decide +kernel)
theorem dX11_drawn_27 : decode cX11_drawn 27 = .ok (.istore 4, 2) := dcu_54 (by decide +kernel)
theorem dX11_drawn_29 : decode cX11_drawn 29 = .ok (.iload 4, 2) := dcu_21 (by decide +kernel)
theorem dX11_drawn_31 : decode cX11_drawn 31 = .ok (.iload_n 2, 1) := dc1_28 (by decide +kernel)
theorem dX11_drawn_32 : decode cX11_drawn 32 = .ok (.if_icmp .ge 29, 3) := dcs_162 (n := 29) (by decide +kernel)
theorem dX11_drawn_35 : decode cX11_drawn 35 = .ok (.iload_n 3, 1) := dc1_29 (by decide +kernel)
theorem dX11_drawn_36 : decode cX11_drawn 36 = .ok (.iconst 1, 1) := dc1_4 (by decide +kernel)
theorem dX11_drawn_37 : decode cX11_drawn 37 = .ok (.aload_n 0, 1) := dc1_42 (by decide +kernel)
theorem dX11_drawn_38 : decode cX11_drawn 38 = .ok (.iload_n 1, 1) := dc1_27 (by decide +kernel)
theorem dX11_drawn_39 : decode cX11_drawn 39 = .ok (.invokevirtual 303, 3) := dcw_182 (by decide +kernel)
theorem dX11_drawn_42 : decode cX11_drawn 42 = .ok (.ishl, 1) := dc1_120 (by decide +kernel)
theorem dX11_drawn_43 : decode cX11_drawn 43 = .ok (.ior, 1) := dc1_128 (by decide +kernel)
theorem dX11_drawn_44 : decode cX11_drawn 44 = .ok (.istore_n 3, 1) := dc1_62 (by decide +kernel)
theorem dX11_drawn_45 : decode cX11_drawn 45 = .ok (.aload_n 0, 1) := dc1_42 (by decide +kernel)
theorem dX11_drawn_46 : decode cX11_drawn 46 = .ok (.dup, 1) := dc1_89 (by decide +kernel)
theorem dX11_drawn_47 : decode cX11_drawn 47 = .ok (.getfield 289, 3) := dcw_180 (by decide +kernel)
theorem dX11_drawn_50 : decode cX11_drawn 50 = .ok (.iconst 1, 1) := dc1_4 (by decide +kernel)
theorem dX11_drawn_51 : decode cX11_drawn 51 = .ok (.iadd, 1) := dc1_96 (by decide +kernel)
theorem dX11_drawn_52 : decode cX11_drawn 52 = .ok (.putfield 289, 3) := dcw_181 (by decide +kernel)
theorem dX11_drawn_55 : decode cX11_drawn 55 = .ok (.iinc 4 1, 3) := dc_iinc (m := 1) (by decide +kernel)
theorem dX11_drawn_58 : decode cX11_drawn 58 = .ok (.goto (-29), 3) := dcs_167 (n := 65507) (by decide +kernel)
theorem dX11_drawn_61 : decode cX11_drawn 61 = .ok (.iload_n 3, 1) := dc1_29 (by decide +kernel)
theorem dX11_drawn_62 : decode cX11_drawn 62 = .ok (.invokestatic 312, 3) := dcw_184 (by decide +kernel)
theorem dX11_drawn_65 : decode cX11_drawn 65 = .ok (.ireturn, 1) := dc1_172 (by decide +kernel)
theorem ggX11_tell_X11_isWave : GoodIn wsX11_tell wsX11_isWave := gi_sub (fun w h => List.mem_cons_of_mem _ (List.mem_append_left _ (List.mem_append_right _ (List.mem_append_left _ h)))) gd_wsX11_isWave
set_option maxRecDepth 20000 in
theorem gX11_tell_X11_isWave : GoodIn wsX11_tell (wsV RX11 349 RX11 yX11_isWave wsX11_isWave) := goodIn_app (goodIn_r _ [5, 6, 7, 8] (by decide +kernel) (by decide +kernel)) ggX11_tell_X11_isWave
theorem ggX11_tell_X11_in : GoodIn wsX11_tell wsX11_in := gi_sub (fun w h => List.mem_cons_of_mem _ (List.mem_append_left _ (List.mem_append_right _ (List.mem_append_right _ h)))) gd_wsX11_in
set_option maxRecDepth 20000 in
theorem gX11_tell_X11_in : GoodIn wsX11_tell (va_wsS RX11 281 yX11_in wsX11_in) := goodIn_app (goodIn_of _ (by decide +kernel)) ggX11_tell_X11_in
theorem dX11_tell_0 : decode cX11_tell 0 = .ok (.aload_n 0, 1) := dc1_42 (by decide +kernel)
theorem dX11_tell_1 : decode cX11_tell 1 = .ok (.getfield 233, 3) := dcw_180 (by decide +kernel)
theorem dX11_tell_4 : decode cX11_tell 4 = .ok (.bipush 20, 2) := dcb_16 (n := 20) (by decide +kernel)
theorem dX11_tell_6 : decode cX11_tell 6 = .ok (.if_icmp .eq 21, 3) := dcs_159 (n := 21) (by decide +kernel)
theorem dX11_tell_9 : decode cX11_tell 9 = .ok (.aload_n 0, 1) := dc1_42 (by decide +kernel)
theorem dX11_tell_10 : decode cX11_tell 10 = .ok (.iload_n 1, 1) := dc1_27 (by decide +kernel)
theorem dX11_tell_11 : decode cX11_tell 11 = .ok (.invokevirtual 349, 3) := dcw_182 (by decide +kernel)
theorem dX11_tell_14 : decode cX11_tell 14 = .ok (.ifCond .eq 13, 3) := dcs_153 (n := 13) (by decide +kernel)
theorem dX11_tell_17 : decode cX11_tell 17 = .ok (.iload_n 2, 1) := dc1_28 (by decide +kernel)
theorem dX11_tell_18 : decode cX11_tell 18 = .ok (.iconst 1, 1) := dc1_4 (by decide +kernel)
theorem dX11_tell_19 : decode cX11_tell 19 = .ok (.bipush 63, 2) := dcb_16 (n := 63) (by decide +kernel)
theorem dX11_tell_21 : decode cX11_tell 21 = .ok (.invokestatic 281, 3) := dcw_184 (by decide +kernel)
theorem dX11_tell_24 : decode cX11_tell 24 = .ok (.ifCond .ne 5, 3) := dcs_154 (n := 5) (by decide +kernel)
theorem dX11_tell_27 : decode cX11_tell 27 = .ok (.iconst (-1), 1) := dc1_2 (by decide +kernel)
theorem dX11_tell_28 : decode cX11_tell 28 = .ok (.ireturn, 1) := dc1_172 (by decide +kernel)
theorem dX11_tell_29 : decode cX11_tell 29 = .ok (.aload_n 0, 1) := dc1_42 (by decide +kernel)
theorem dX11_tell_30 : decode cX11_tell 30 = .ok (.getfield 116, 3) := dcw_180 (by decide +kernel)
theorem dX11_tell_33 : decode cX11_tell 33 = .ok (.aload_n 0, 1) := dc1_42 (by decide +kernel)
theorem dX11_tell_34 : decode cX11_tell 34 = .ok (.getfield 233, 3) := dcw_180 (by decide +kernel)
theorem dX11_tell_37 : decode cX11_tell 37 = .ok (.iload_n 1, 1) := dc1_27 (by decide +kernel)
theorem dX11_tell_38 : decode cX11_tell 38 = .ok (.iastore, 1) := dc1_79 (by decide +kernel)
theorem dX11_tell_39 : decode cX11_tell 39 = .ok (.aload_n 0, 1) := dc1_42 (by decide +kernel)
theorem dX11_tell_40 : decode cX11_tell 40 = .ok (.getfield 119, 3) := dcw_180 (by decide +kernel)
theorem dX11_tell_43 : decode cX11_tell 43 = .ok (.aload_n 0, 1) := dc1_42 (by decide +kernel)
theorem dX11_tell_44 : decode cX11_tell 44 = .ok (.getfield 233, 3) := dcw_180 (by decide +kernel)
theorem dX11_tell_47 : decode cX11_tell 47 = .ok (.iload_n 2, 1) := dc1_28 (by decide +kernel)
theorem dX11_tell_48 : decode cX11_tell 48 = .ok (.iastore, 1) := dc1_79 (by decide +kernel)
theorem dX11_tell_49 : decode cX11_tell 49 = .ok (.aload_n 0, 1) := dc1_42 (by decide +kernel)
theorem dX11_tell_50 : decode cX11_tell 50 = .ok (.getfield 122, 3) := dcw_180 (by decide +kernel)
theorem dX11_tell_53 : decode cX11_tell 53 = .ok (.aload_n 0, 1) := dc1_42 (by decide +kernel)
theorem dX11_tell_54 : decode cX11_tell 54 = .ok (.getfield 233, 3) := dcw_180 (by decide +kernel)
theorem dX11_tell_57 : decode cX11_tell 57 = .ok (.iload_n 3, 1) := dc1_29 (by decide +kernel)
theorem dX11_tell_58 : decode cX11_tell 58 = .ok (.bastore, 1) := dc1_84 (by decide +kernel)
theorem dX11_tell_59 : decode cX11_tell 59 = .ok (.aload_n 0, 1) := dc1_42 (by decide +kernel)
theorem dX11_tell_60 : decode cX11_tell 60 = .ok (.dup, 1) := dc1_89 (by decide +kernel)
theorem dX11_tell_61 : decode cX11_tell 61 = .ok (.getfield 233, 3) := dcw_180 (by decide +kernel)
theorem dX11_tell_64 : decode cX11_tell 64 = .ok (.iconst 1, 1) := dc1_4 (by decide +kernel)
theorem dX11_tell_65 : decode cX11_tell 65 = .ok (.iadd, 1) := dc1_96 (by decide +kernel)
theorem dX11_tell_66 : decode cX11_tell 66 = .ok (.putfield 233, 3) := dcw_181 (by decide +kernel)
theorem dX11_tell_69 : decode cX11_tell 69 = .ok (.aload_n 0, 1) := dc1_42 (by decide +kernel)
theorem dX11_tell_70 : decode cX11_tell 70 = .ok (.getfield 233, 3) := dcw_180 (by decide +kernel)
theorem dX11_tell_73 : decode cX11_tell 73 = .ok (.iconst 1, 1) := dc1_4 (by decide +kernel)
theorem dX11_tell_74 : decode cX11_tell 74 = .ok (.isub, 1) := dc1_100 (by decide +kernel)
theorem dX11_tell_75 : decode cX11_tell 75 = .ok (.ireturn, 1) := dc1_172 (by decide +kernel)
theorem dX11_forget_0 : decode cX11_forget 0 = .ok (.aload_n 0, 1) := dc1_42 (by decide +kernel)
theorem dX11_forget_1 : decode cX11_forget 1 = .ok (.getfield 233, 3) := dcw_180 (by decide +kernel)
theorem dX11_forget_4 : decode cX11_forget 4 = .ok (.istore_n 1, 1) := dc1_60 (by decide +kernel)
theorem dX11_forget_5 : decode cX11_forget 5 = .ok (.aload_n 0, 1) := dc1_42 (by decide +kernel)
theorem dX11_forget_6 : decode cX11_forget 6 = .ok (.iconst 0, 1) := dc1_3 (by decide +kernel)
theorem dX11_forget_7 : decode cX11_forget 7 = .ok (.putfield 233, 3) := dcw_181 (by decide +kernel)
theorem dX11_forget_10 : decode cX11_forget 10 = .ok (.iload_n 1, 1) := dc1_27 (by decide +kernel)
theorem dX11_forget_11 : decode cX11_forget 11 = .ok (.ireturn, 1) := dc1_172 (by decide +kernel)
theorem ggX11_isSo_X11_thingAt : GoodIn wsX11_isSo wsX11_thingAt := gi_sub (fun w h => List.mem_cons_of_mem _ (List.mem_append_left _ (List.mem_append_right _ h))) gd_wsX11_thingAt
set_option maxRecDepth 20000 in
theorem gX11_isSo_X11_thingAt : GoodIn wsX11_isSo (wsV RX11 330 RX11 yX11_thingAt wsX11_thingAt) := goodIn_app (goodIn_r _ [4, 5, 6, 7] (by decide +kernel) (by decide +kernel)) ggX11_isSo_X11_thingAt
theorem dX11_isSo_0 : decode cX11_isSo 0 = .ok (.aload_n 0, 1) := dc1_42 (by decide +kernel)
theorem dX11_isSo_1 : decode cX11_isSo 1 = .ok (.getfield 119, 3) := dcw_180 (by decide +kernel)
theorem dX11_isSo_4 : decode cX11_isSo 4 = .ok (.iload_n 2, 1) := dc1_28 (by decide +kernel)
theorem dX11_isSo_5 : decode cX11_isSo 5 = .ok (.iaload, 1) := dc1_46 (by decide +kernel)
theorem dX11_isSo_6 : decode cX11_isSo 6 = .ok (.aload_n 0, 1) := dc1_42 (by decide +kernel)
theorem dX11_isSo_7 : decode cX11_isSo 7 = .ok (.iload_n 1, 1) := dc1_27 (by decide +kernel)
theorem dX11_isSo_8 : decode cX11_isSo 8 = .ok (.aload_n 0, 1) := dc1_42 (by decide +kernel)
theorem dX11_isSo_9 : decode cX11_isSo 9 = .ok (.getfield 116, 3) := dcw_180 (by decide +kernel)
theorem dX11_isSo_12 : decode cX11_isSo 12 = .ok (.iload_n 2, 1) := dc1_28 (by decide +kernel)
theorem dX11_isSo_13 : decode cX11_isSo 13 = .ok (.iaload, 1) := dc1_46 (by decide +kernel)
theorem dX11_isSo_14 : decode cX11_isSo 14 = .ok (.invokevirtual 330, 3) := dcw_182 (by decide +kernel)
theorem dX11_isSo_17 : decode cX11_isSo 17 = .ok (.ishr, 1) := dc1_122 (by decide +kernel)
theorem dX11_isSo_18 : decode cX11_isSo 18 = .ok (.iconst 1, 1) := dc1_4 (by decide +kernel)
theorem dX11_isSo_19 : decode cX11_isSo 19 = .ok (.iand, 1) := dc1_126 (by decide +kernel)
theorem dX11_isSo_20 : decode cX11_isSo 20 = .ok (.iconst 1, 1) := dc1_4 (by decide +kernel)
theorem dX11_isSo_21 : decode cX11_isSo 21 = .ok (.if_icmp .ne 7, 3) := dcs_160 (n := 7) (by decide +kernel)
theorem dX11_isSo_24 : decode cX11_isSo 24 = .ok (.iconst 1, 1) := dc1_4 (by decide +kernel)
theorem dX11_isSo_25 : decode cX11_isSo 25 = .ok (.goto 4, 3) := dcs_167 (n := 4) (by decide +kernel)
theorem dX11_isSo_28 : decode cX11_isSo 28 = .ok (.iconst 0, 1) := dc1_3 (by decide +kernel)
theorem dX11_isSo_29 : decode cX11_isSo 29 = .ok (.aload_n 0, 1) := dc1_42 (by decide +kernel)
theorem dX11_isSo_30 : decode cX11_isSo 30 = .ok (.getfield 122, 3) := dcw_180 (by decide +kernel)
theorem dX11_isSo_33 : decode cX11_isSo 33 = .ok (.iload_n 2, 1) := dc1_28 (by decide +kernel)
theorem dX11_isSo_34 : decode cX11_isSo 34 = .ok (.baload, 1) := dc1_51 (by decide +kernel)
theorem dX11_isSo_35 : decode cX11_isSo 35 = .ok (.if_icmp .ne 7, 3) := dcs_160 (n := 7) (by decide +kernel)
theorem dX11_isSo_38 : decode cX11_isSo 38 = .ok (.iconst 1, 1) := dc1_4 (by decide +kernel)
theorem dX11_isSo_39 : decode cX11_isSo 39 = .ok (.goto 4, 3) := dcs_167 (n := 4) (by decide +kernel)
theorem dX11_isSo_42 : decode cX11_isSo 42 = .ok (.iconst 0, 1) := dc1_3 (by decide +kernel)
theorem dX11_isSo_43 : decode cX11_isSo 43 = .ok (.ireturn, 1) := dc1_172 (by decide +kernel)
theorem ggX11_doesFit_X11_isSo : GoodIn wsX11_doesFit wsX11_isSo := gi_sub (fun w h => List.mem_cons_of_mem _ (List.mem_append_left _ (List.mem_append_right _ h))) gd_wsX11_isSo
set_option maxRecDepth 20000 in
theorem gX11_doesFit_X11_isSo : GoodIn wsX11_doesFit (wsV RX11 419 RX11 yX11_isSo wsX11_isSo) := goodIn_app (goodIn_r _ [2, 3, 4, 5] (by decide +kernel) (by decide +kernel)) ggX11_doesFit_X11_isSo
theorem dX11_doesFit_0 : decode cX11_doesFit 0 = .ok (.aload_n 0, 1) := dc1_42 (by decide +kernel)
theorem dX11_doesFit_1 : decode cX11_doesFit 1 = .ok (.getfield 113, 3) := dcw_180 (by decide +kernel)
theorem dX11_doesFit_4 : decode cX11_doesFit 4 = .ok (.iload_n 1, 1) := dc1_27 (by decide +kernel)
theorem dX11_doesFit_5 : decode cX11_doesFit 5 = .ok (.iaload, 1) := dc1_46 (by decide +kernel)
theorem dX11_doesFit_6 : decode cX11_doesFit 6 = .ok (.ifCond .ne 5, 3) := dcs_154 (n := 5) (by decide +kernel)
theorem dX11_doesFit_9 : decode cX11_doesFit 9 = .ok (.iconst 0, 1) := dc1_3 (by decide +kernel)
theorem dX11_doesFit_10 : decode cX11_doesFit 10 = .ok (.ireturn, 1) := dc1_172 (by decide +kernel)
theorem dX11_doesFit_11 : decode cX11_doesFit 11 = .ok (.iconst 0, 1) := dc1_3 (by decide +kernel)
theorem dX11_doesFit_12 : decode cX11_doesFit 12 = .ok (.istore 4, 2) := dcu_54 (by decide +kernel)
theorem dX11_doesFit_14 : decode cX11_doesFit 14 = .ok (.iconst 0, 1) := dc1_3 (by decide +kernel)
theorem dX11_doesFit_15 : decode cX11_doesFit 15 = .ok (.istore 5, 2) := dcu_54 (by decide +kernel)
theorem dX11_doesFit_17 : decode cX11_doesFit 17 = .ok (.iload 5, 2) := dcu_21 (by decide +kernel)
theorem dX11_doesFit_19 : decode cX11_doesFit 19 = .ok (.iload_n 2, 1) := dc1_28 (by decide +kernel)
theorem dX11_doesFit_20 : decode cX11_doesFit 20 = .ok (.if_icmp .ge 22, 3) := dcs_162 (n := 22) (by decide +kernel)
theorem dX11_doesFit_23 : decode cX11_doesFit 23 = .ok (.aload_n 0, 1) := dc1_42 (by decide +kernel)
theorem dX11_doesFit_24 : decode cX11_doesFit 24 = .ok (.iload_n 1, 1) := dc1_27 (by decide +kernel)
theorem dX11_doesFit_25 : decode cX11_doesFit 25 = .ok (.iload 5, 2) := dcu_21 (by decide +kernel)
theorem dX11_doesFit_27 : decode cX11_doesFit 27 = .ok (.invokevirtual 419, 3) := dcw_182 (by decide +kernel)
theorem dX11_doesFit_30 : decode cX11_doesFit 30 = .ok (.ifCond .ne 6, 3) := dcs_154 (n := 6) (by decide +kernel)
theorem dX11_doesFit_33 : decode cX11_doesFit 33 = .ok (.iinc 4 1, 3) := dc_iinc (m := 1) (by decide +kernel)
theorem dX11_doesFit_36 : decode cX11_doesFit 36 = .ok (.iinc 5 1, 3) := dc_iinc (m := 1) (by decide +kernel)
theorem dX11_doesFit_39 : decode cX11_doesFit 39 = .ok (.goto (-22), 3) := dcs_167 (n := 65514) (by decide +kernel)
theorem dX11_doesFit_42 : decode cX11_doesFit 42 = .ok (.iload 4, 2) := dcu_21 (by decide +kernel)
theorem dX11_doesFit_44 : decode cX11_doesFit 44 = .ok (.iload_n 3, 1) := dc1_29 (by decide +kernel)
theorem dX11_doesFit_45 : decode cX11_doesFit 45 = .ok (.if_icmp .gt 7, 3) := dcs_163 (n := 7) (by decide +kernel)
theorem dX11_doesFit_48 : decode cX11_doesFit 48 = .ok (.iconst 1, 1) := dc1_4 (by decide +kernel)
theorem dX11_doesFit_49 : decode cX11_doesFit 49 = .ok (.goto 4, 3) := dcs_167 (n := 4) (by decide +kernel)
theorem dX11_doesFit_52 : decode cX11_doesFit 52 = .ok (.iconst 0, 1) := dc1_3 (by decide +kernel)
theorem dX11_doesFit_53 : decode cX11_doesFit 53 = .ok (.ireturn, 1) := dc1_172 (by decide +kernel)
theorem LX11_then_101 : Cond.fieldLink RX11 101 "GuessFerryModel" "row" "[I" ∈ wsX11_then := by decide +kernel
theorem inX11_then_X11 : ∀ w ∈ u_ws RX11 TX11 58, w ∈ wsX11_then := by decide +kernel
set_option maxHeartbeats 4000000 in
set_option maxRecDepth 100000 in
theorem br_then {l : Launch} {dC : Nat → ClassId} {dI : Nat → Nat → Nat} {cB cI cJ cZ cS : ClassId} {h : Nat} {a : Nat → Nat} {as : List Value} {r : Int32} {s' : RS} (s : RS) (x1 : Int32) (x2 : Int32) (x3 : Int32) (hB : r_then s x1 x2 x3 = some (r, s')) : BlkI l yX11_then wsX11_then ({ frames := 6, cells := 0, slots := 0, locals := 130 }) cX11_then 4 (some .int) (dC, dI) (tysA cB cI cJ cZ cS) as 0 (mwS cB cI cJ cZ h a s) [(0, .ref h), (1, .int x1), (2, .int x2), (3, .int x3)] [] (fun x u => x = r ∧ u = (mwS cB cI cJ cZ h a s')) := by
  intro p e s0 m below meth c A E H locs ls hP hD hS hl
  obtain ⟨C, hr, hlocks, hA, hK, hN⟩ := id E
  obtain ⟨hx, hb, hml, hown, hts⟩ := id C
  unfold r_then at hB
  refine lv_aload_n hx hb dX11_then_0 rfl (lv_at hl 0 rfl) ?_
  refine lv_iload_n hx hb dX11_then_1 rfl (lv_at hl 1 rfl) ?_
  obtain ⟨q_, s1, hc, hB⟩ := bindI_inv hB
  refine q_goiF (va_runV (As := [.int x1]) (rest := []) C (cr_isWave hc _) (cwV 1 hts gX11_then_X11_isWave rfl rfl rfl (by decide +kernel) ⟨Nat.le_of_ble_eq_true rfl, Nat.le_of_ble_eq_true rfl⟩) (q_preV hK hP (ci := 11) (q0 := 0) rfl rfl rfl (q_preF hN hK hP hD)) rfl rfl hl.1 rfl (lv_room (Nat.le_of_ble_eq_true rfl)) dX11_then_2 ⟨Nat.le_of_ble_eq_true rfl, Nat.le_of_ble_eq_true rfl⟩) hD hS hA (fun r2 w1 H locs hw hP hD hS => ?_)
  obtain ⟨hq_, hw⟩ := hw; subst hw; subst hq_
  refine lv_if_eq (tgt := 24) hx hb dX11_then_5 (by decide) (fun c3 => ?_) (fun c3 => ?_)
  · have hB := if_p hB c3
    refine lv_iconst (v := (-1)) hx hb dX11_then_24 (by decide) ?_
    exact q_iret C hr hlocks hK hP hD hS (Nat.le_of_ble_eq_true rfl) (Nat.le_of_ble_eq_true rfl) dX11_then_25 (by cases hB; exact ⟨rfl, rfl⟩)
  · have hB := if_n hB c3
    refine lv_iload_n hx hb dX11_then_8 rfl (lv_at hl 2 rfl) ?_
    obtain ⟨q_, hc, hB⟩ := bindP_inv hB
    refine q_goi0 (va_runS (As := [.int x2]) (rest := []) C (cr_isLong hc _) (va_cwS 1 hts gX11_then_X11_isLong rfl rfl rfl (by decide +kernel) ⟨Nat.le_of_ble_eq_true rfl, Nat.le_of_ble_eq_true rfl⟩) (q_pre0 hN hK) rfl rfl hl.1 rfl (lv_room (Nat.le_of_ble_eq_true rfl)) dX11_then_9 ⟨Nat.le_of_ble_eq_true rfl, Nat.le_of_ble_eq_true rfl⟩) hP hD hS hA (fun r4 w1 H locs hw hP hS => ?_)
    subst hw
    refine lv_if_eq (tgt := 24) hx hb dX11_then_12 (by decide) (fun c5 => ?_) (fun c5 => ?_)
    · have hB := if_p hB c5
      refine lv_iconst (v := (-1)) hx hb dX11_then_24 (by decide) ?_
      exact q_iret C hr hlocks hK hP hD hS (Nat.le_of_ble_eq_true rfl) (Nat.le_of_ble_eq_true rfl) dX11_then_25 (by cases hB; exact ⟨rfl, rfl⟩)
    · have hB := if_n hB c5
      refine lv_iload_n hx hb dX11_then_15 rfl (lv_at hl 3 rfl) ?_
      refine lv_iconst (v := 0) hx hb dX11_then_16 (by decide) ?_
      refine lv_iconst (v := 2) hx hb dX11_then_17 (by decide) ?_
      obtain ⟨q_, hc, hB⟩ := bindP_inv hB
      refine q_goi0 (va_runS (As := [.int x3, .int 0, .int 2]) (rest := []) C (cr_in hc _) (va_cwS 3 hts gX11_then_X11_in rfl rfl rfl (by decide +kernel) ⟨Nat.le_of_ble_eq_true rfl, Nat.le_of_ble_eq_true rfl⟩) (q_pre0 hN hK) rfl rfl hl.1 rfl (lv_room (Nat.le_of_ble_eq_true rfl)) dX11_then_18 ⟨Nat.le_of_ble_eq_true rfl, Nat.le_of_ble_eq_true rfl⟩) hP hD hS hA (fun r6 w1 H locs hw hP hS => ?_)
      subst hw
      refine lv_if_ne (tgt := 26) hx hb dX11_then_21 (by decide) (fun c7 => ?_) (fun c7 => ?_)
      · have hB := if_n hB c7
        refine lv_aload_n hx hb dX11_then_26 rfl (lv_at hl 0 rfl) ?_
        obtain ⟨s8, hc, hB⟩ := bindP_inv hB
        refine q_govF (va_runV (As := []) (rest := []) C (cr_copies hc _) (cwV 0 hts gX11_then_X11_copies rfl rfl rfl (by decide +kernel) ⟨Nat.le_of_ble_eq_true rfl, Nat.le_of_ble_eq_true rfl⟩) (q_preV hK hP (ci := 11) (q0 := 0) rfl rfl rfl (q_preF hN hK hP hD)) rfl rfl hl.1 rfl (lv_room (Nat.le_of_ble_eq_true rfl)) dX11_then_27 ⟨Nat.le_of_ble_eq_true rfl, Nat.le_of_ble_eq_true rfl⟩) hD hS hA (fun w1 H locs hw hP hD hS => ?_)
        subst hw
        refine lv_aload_n hx hb dX11_then_30 rfl (lv_at hl 0 rfl) ?_
        refine lv_iload_n hx hb dX11_then_31 rfl (lv_at hl 2 rfl) ?_
        obtain ⟨s9, hc, hB⟩ := bindP_inv hB
        refine q_govF (va_runV (As := [.int x2]) (rest := []) C (cr_yearsGo hc _) (cwV 1 hts gX11_then_X11_yearsGo rfl rfl rfl (by decide +kernel) ⟨Nat.le_of_ble_eq_true rfl, Nat.le_of_ble_eq_true rfl⟩) (q_preV hK hP (ci := 11) (q0 := 0) rfl rfl rfl (q_preF hN hK hP hD)) rfl rfl hl.1 rfl (lv_room (Nat.le_of_ble_eq_true rfl)) dX11_then_32 ⟨Nat.le_of_ble_eq_true rfl, Nat.le_of_ble_eq_true rfl⟩) hD hS hA (fun w1 H locs hw hP hD hS => ?_)
        subst hw
        refine lv_iload_n hx hb dX11_then_35 rfl (lv_at hl 3 rfl) ?_
        refine lv_if_ne (tgt := 47) hx hb dX11_then_36 (by decide) (fun c10 => ?_) (fun c10 => ?_)
        · have hB := if_n hB c10
          refine lv_iload_n hx hb dX11_then_47 rfl (lv_at hl 3 rfl) ?_
          refine lv_iconst (v := 1) hx hb dX11_then_48 (by decide) ?_
          refine lv_icmp_ne (tgt := 64) hx hb dX11_then_49 (by decide) (fun c11 => ?_) (fun c11 => ?_)
          · have hB := if_n hB c11
            refine lv_aload_n hx hb dX11_then_64 rfl (lv_at hl 0 rfl) ?_
            refine lv_iload_n hx hb dX11_then_65 rfl (lv_at hl 1 rfl) ?_
            obtain ⟨q_, s12, hc, hB⟩ := bindI_inv hB
            refine q_goiF (va_runV (As := [.int x1]) (rest := []) C (cr_thereAt hc _) (cwV 1 hts gX11_then_X11_thereAt rfl rfl rfl (by decide +kernel) ⟨Nat.le_of_ble_eq_true rfl, Nat.le_of_ble_eq_true rfl⟩) (q_preV hK hP (ci := 11) (q0 := 0) rfl rfl rfl (q_preF hN hK hP hD)) rfl rfl hl.1 rfl (lv_room (Nat.le_of_ble_eq_true rfl)) dX11_then_66 ⟨Nat.le_of_ble_eq_true rfl, Nat.le_of_ble_eq_true rfl⟩) hD hS hA (fun r13 w1 H locs hw hP hD hS => ?_)
            obtain ⟨hq_, hw⟩ := hw; subst hw; subst hq_
            exact q_iret C hr hlocks hK hP hD hS (Nat.le_of_ble_eq_true rfl) (Nat.le_of_ble_eq_true rfl) dX11_then_69 (by cases hB; exact ⟨rfl, rfl⟩)
          · have hB := if_p hB c11
            refine lv_aload_n hx hb dX11_then_52 rfl (lv_at hl 0 rfl) ?_
            refine q_get (v := .ref (a 44)) C inX11_then_X11 hK hP 0 rfl rfl 44 (by decide) rfl LX11_then_101 rfl dX11_then_53 ?_
            refine lv_bipush (v := 10) hx hb dX11_then_56 (by decide) ?_
            refine lv_iload_n hx hb dX11_then_58 rfl (lv_at hl 1 rfl) ?_
            refine lv_iadd hx hb dX11_then_59 ?_
            obtain ⟨g14, hB⟩ := guard_inv hB
            refine q_iald (x := (s9.f 44 (Int32.toNatClampNeg (10 + x1)))) C hK hP 28 1 rfl rfl (vpb_in g14) dX11_then_60 rfl ?_
            refine lv_goto (tgt := 69) hx hb dX11_then_61 (by decide) ?_
            exact q_iret C hr hlocks hK hP hD hS (Nat.le_of_ble_eq_true rfl) (Nat.le_of_ble_eq_true rfl) dX11_then_69 (by cases hB; exact ⟨rfl, rfl⟩)
        · have hB := if_p hB c10
          refine lv_aload_n hx hb dX11_then_39 rfl (lv_at hl 0 rfl) ?_
          refine lv_iload_n hx hb dX11_then_40 rfl (lv_at hl 1 rfl) ?_
          obtain ⟨q_, s15, hc, hB⟩ := bindI_inv hB
          refine q_goiF (va_runV (As := [.int x1]) (rest := []) C (cr_mayAt hc _) (cwV 1 hts gX11_then_X11_mayAt rfl rfl rfl (by decide +kernel) ⟨Nat.le_of_ble_eq_true rfl, Nat.le_of_ble_eq_true rfl⟩) (q_preV hK hP (ci := 11) (q0 := 0) rfl rfl rfl (q_preF hN hK hP hD)) rfl rfl hl.1 rfl (lv_room (Nat.le_of_ble_eq_true rfl)) dX11_then_41 ⟨Nat.le_of_ble_eq_true rfl, Nat.le_of_ble_eq_true rfl⟩) hD hS hA (fun r16 w1 H locs hw hP hD hS => ?_)
          obtain ⟨hq_, hw⟩ := hw; subst hw; subst hq_
          refine lv_goto (tgt := 69) hx hb dX11_then_44 (by decide) ?_
          exact q_iret C hr hlocks hK hP hD hS (Nat.le_of_ble_eq_true rfl) (Nat.le_of_ble_eq_true rfl) dX11_then_69 (by cases hB; exact ⟨rfl, rfl⟩)
      · have hB := if_p hB c7
        refine lv_iconst (v := (-1)) hx hb dX11_then_24 (by decide) ?_
        exact q_iret C hr hlocks hK hP hD hS (Nat.le_of_ble_eq_true rfl) (Nat.le_of_ble_eq_true rfl) dX11_then_25 (by cases hB; exact ⟨rfl, rfl⟩)
theorem cr_then {l : Launch} {dC : Nat → ClassId} {dI : Nat → Nat → Nat} {cB cI cJ cZ cS : ClassId} {h : Nat} {a : Nat → Nat} {r : Int32} {s' : RS} {s : RS} {x1 : Int32} {x2 : Int32} {x3 : Int32} (hB : r_then s x1 x2 x3 = some (r, s')) : CI l yX11_then wsX11_then ({ frames := 6, cells := 0, slots := 0, locals := 130 }) (dC, dI) (tysA cB cI cJ cZ cS) (mwS cB cI cJ cZ h a s) [.ref h, .int x1, .int x2, .int x3] (fun x u => x = r ∧ u = (mwS cB cI cJ cZ h a s')) :=
  CI_of (cc := cX11_then) (maxL := 4) (ret := (some .int)) (by decide) rfl (Nat.le_of_ble_eq_true rfl) (br_then _ _ _ _ hB)
theorem LX11_next_101 : Cond.fieldLink RX11 101 "GuessFerryModel" "row" "[I" ∈ wsX11_next := by decide +kernel
theorem LX11_next_98 : Cond.fieldLink RX11 98 "GuessFerryModel" "now" "[I" ∈ wsX11_next := by decide +kernel
theorem inX11_next_X11 : ∀ w ∈ u_ws RX11 TX11 58, w ∈ wsX11_next := by decide +kernel
set_option maxHeartbeats 4000000 in
set_option maxRecDepth 100000 in
theorem br_next_16 {l : Launch} {dC : Nat → ClassId} {dI : Nat → Nat → Nat} {cB cI cJ cZ cS : ClassId} {h : Nat} {a : Nat → Nat} {as : List Value} {r : Int32} {s' : RS} {k16 : RS → Int32 → Int32 → Option (Int32 × RS)} (hk16 : ∀ (s : RS) (x1 : Int32) (x2 : Int32), k16 s x1 x2 = some (r, s') → BlkI l yX11_next wsX11_next ({ frames := 5, cells := 0, slots := 0, locals := 108 }) cX11_next 3 (some .int) (dC, dI) (tysA cB cI cJ cZ cS) as 16 (mwS cB cI cJ cZ h a s) [(0, .ref h), (1, .int x1), (2, .int x2)] [] (fun x u => x = r ∧ u = (mwS cB cI cJ cZ h a s'))) (s : RS) (x1 : Int32) (x2 : Int32) (hB : r_next_16 k16 s x1 x2 = some (r, s')) : BlkI l yX11_next wsX11_next ({ frames := 5, cells := 0, slots := 0, locals := 108 }) cX11_next 3 (some .int) (dC, dI) (tysA cB cI cJ cZ cS) as 16 (mwS cB cI cJ cZ h a s) [(0, .ref h), (1, .int x1), (2, .int x2)] [] (fun x u => x = r ∧ u = (mwS cB cI cJ cZ h a s')) := by
  intro p e s0 m below meth c A E H locs ls hP hD hS hl
  obtain ⟨C, hr, hlocks, hA, hK, hN⟩ := id E
  obtain ⟨hx, hb, hml, hown, hts⟩ := id C
  unfold r_next_16 at hB
  refine lv_iload_n hx hb dX11_next_16 rfl (lv_at hl 2 rfl) ?_
  refine lv_bipush (v := 40) hx hb dX11_next_17 (by decide) ?_
  refine lv_icmp_gt (tgt := 55) hx hb dX11_next_19 (by decide) (fun c1 => ?_) (fun c1 => ?_)
  · have hB := if_p hB c1
    refine lv_bipush (v := (-2)) hx hb dX11_next_55 (by decide) ?_
    exact q_iret C hr hlocks hK hP hD hS (Nat.le_of_ble_eq_true rfl) (Nat.le_of_ble_eq_true rfl) dX11_next_57 (by cases hB; exact ⟨rfl, rfl⟩)
  · have hB := if_n hB c1
    refine lv_aload_n hx hb dX11_next_22 rfl (lv_at hl 0 rfl) ?_
    obtain ⟨s2, hc, hB⟩ := bindP_inv hB
    refine q_govF (va_runV (As := []) (rest := []) C (cr_yearGoes hc _) (cwV 0 hts gX11_next_X11_yearGoes rfl rfl rfl (by decide +kernel) ⟨Nat.le_of_ble_eq_true rfl, Nat.le_of_ble_eq_true rfl⟩) (q_preV hK hP (ci := 11) (q0 := 0) rfl rfl rfl (q_preF hN hK hP hD)) rfl rfl hl.1 rfl (lv_room (Nat.le_of_ble_eq_true rfl)) dX11_next_23 ⟨Nat.le_of_ble_eq_true rfl, Nat.le_of_ble_eq_true rfl⟩) hD hS hA (fun w1 H locs hw hP hD hS => ?_)
    subst hw
    refine lv_aload_n hx hb dX11_next_26 rfl (lv_at hl 0 rfl) ?_
    refine q_get (v := .ref (a 44)) C inX11_next_X11 hK hP 0 rfl rfl 44 (by decide) rfl LX11_next_101 rfl dX11_next_27 ?_
    refine lv_bipush (v := 10) hx hb dX11_next_30 (by decide) ?_
    refine lv_iload_n hx hb dX11_next_32 rfl (lv_at hl 1 rfl) ?_
    refine lv_iadd hx hb dX11_next_33 ?_
    obtain ⟨g3, hB⟩ := guard_inv hB
    refine q_iald (x := (s2.f 44 (Int32.toNatClampNeg (10 + x1)))) C hK hP 28 1 rfl rfl (vpb_in g3) dX11_next_34 rfl ?_
    refine lv_aload_n hx hb dX11_next_35 rfl (lv_at hl 0 rfl) ?_
    refine q_get (v := .ref (a 43)) C inX11_next_X11 hK hP 0 rfl rfl 43 (by decide) rfl LX11_next_98 rfl dX11_next_36 ?_
    refine lv_bipush (v := 10) hx hb dX11_next_39 (by decide) ?_
    refine lv_iload_n hx hb dX11_next_41 rfl (lv_at hl 1 rfl) ?_
    refine lv_iadd hx hb dX11_next_42 ?_
    obtain ⟨g4, hB⟩ := guard_inv hB
    refine q_iald (x := (s2.f 43 (Int32.toNatClampNeg (10 + x1)))) C hK hP 27 1 rfl rfl (vpb_in g4) dX11_next_43 rfl ?_
    refine lv_icmp_le (tgt := 49) hx hb dX11_next_44 (by decide) (fun c5 => ?_) (fun c5 => ?_)
    · have hB := if_p hB c5
      refine lv_iinc (v := (x2 + 1)) (lv' := [(2, .int (x2 + 1)), (0, .ref h), (1, .int x1)]) hx hb dX11_next_49 hl (k := 2) rfl (rfl) (by decide) rfl (fun ls hl => ?_)
      refine lv_goto (tgt := 16) hx hb dX11_next_52 (by decide) ?_
      exact hk16 _ _ _ hB p e s0 m below meth c A E H locs ls hP hD hS (lv_sub hl [1, 2, 0] rfl)
    · have hB := if_n hB c5
      refine lv_iload_n hx hb dX11_next_47 rfl (lv_at hl 2 rfl) ?_
      exact q_iret C hr hlocks hK hP hD hS (Nat.le_of_ble_eq_true rfl) (Nat.le_of_ble_eq_true rfl) dX11_next_48 (by cases hB; exact ⟨rfl, rfl⟩)
theorem br_next_16L {l : Launch} {dC : Nat → ClassId} {dI : Nat → Nat → Nat} {cB cI cJ cZ cS : ClassId} {h : Nat} {a : Nat → Nat} {as : List Value} {r : Int32} {s' : RS} : ∀ (n : Nat) (s : RS) (x1 : Int32) (x2 : Int32), r_next_16L n s x1 x2 = some (r, s') → BlkI l yX11_next wsX11_next ({ frames := 5, cells := 0, slots := 0, locals := 108 }) cX11_next 3 (some .int) (dC, dI) (tysA cB cI cJ cZ cS) as 16 (mwS cB cI cJ cZ h a s) [(0, .ref h), (1, .int x1), (2, .int x2)] [] (fun x u => x = r ∧ u = (mwS cB cI cJ cZ h a s')) := by
  intro n
  induction n with
  | zero => intro s x1 x2 hB; exact none_ne hB
  | succ n ih => intro s x1 x2 hB; exact br_next_16 ih _ _ _ hB
set_option maxHeartbeats 4000000 in
set_option maxRecDepth 100000 in
theorem br_next {l : Launch} {dC : Nat → ClassId} {dI : Nat → Nat → Nat} {cB cI cJ cZ cS : ClassId} {h : Nat} {a : Nat → Nat} {as : List Value} {r : Int32} {s' : RS} (s : RS) (x1 : Int32) (hB : r_next s x1 = some (r, s')) : BlkI l yX11_next wsX11_next ({ frames := 5, cells := 0, slots := 0, locals := 108 }) cX11_next 3 (some .int) (dC, dI) (tysA cB cI cJ cZ cS) as 0 (mwS cB cI cJ cZ h a s) [(0, .ref h), (1, .int x1)] [] (fun x u => x = r ∧ u = (mwS cB cI cJ cZ h a s')) := by
  intro p e s0 m below meth c A E H locs ls hP hD hS hl
  obtain ⟨C, hr, hlocks, hA, hK, hN⟩ := id E
  obtain ⟨hx, hb, hml, hown, hts⟩ := id C
  unfold r_next at hB
  refine lv_aload_n hx hb dX11_next_0 rfl (lv_at hl 0 rfl) ?_
  refine lv_iload_n hx hb dX11_next_1 rfl (lv_at hl 1 rfl) ?_
  obtain ⟨q_, s1, hc, hB⟩ := bindI_inv hB
  refine q_goiF (va_runV (As := [.int x1]) (rest := []) C (cr_isWave hc _) (cwV 1 hts gX11_next_X11_isWave rfl rfl rfl (by decide +kernel) ⟨Nat.le_of_ble_eq_true rfl, Nat.le_of_ble_eq_true rfl⟩) (q_preV hK hP (ci := 11) (q0 := 0) rfl rfl rfl (q_preF hN hK hP hD)) rfl rfl hl.1 rfl (lv_room (Nat.le_of_ble_eq_true rfl)) dX11_next_2 ⟨Nat.le_of_ble_eq_true rfl, Nat.le_of_ble_eq_true rfl⟩) hD hS hA (fun r2 w1 H locs hw hP hD hS => ?_)
  obtain ⟨hq_, hw⟩ := hw; subst hw; subst hq_
  refine lv_if_ne (tgt := 10) hx hb dX11_next_5 (by decide) (fun c3 => ?_) (fun c3 => ?_)
  · have hB := if_n hB c3
    refine lv_aload_n hx hb dX11_next_10 rfl (lv_at hl 0 rfl) ?_
    obtain ⟨s4, hc, hB⟩ := bindP_inv hB
    refine q_govF (va_runV (As := []) (rest := []) C (cr_copies hc _) (cwV 0 hts gX11_next_X11_copies rfl rfl rfl (by decide +kernel) ⟨Nat.le_of_ble_eq_true rfl, Nat.le_of_ble_eq_true rfl⟩) (q_preV hK hP (ci := 11) (q0 := 0) rfl rfl rfl (q_preF hN hK hP hD)) rfl rfl hl.1 rfl (lv_room (Nat.le_of_ble_eq_true rfl)) dX11_next_11 ⟨Nat.le_of_ble_eq_true rfl, Nat.le_of_ble_eq_true rfl⟩) hD hS hA (fun w1 H locs hw hP hD hS => ?_)
    subst hw
    refine lv_iconst (v := 1) hx hb dX11_next_14 (by decide) ?_
    refine lv_istore_n (lv' := [(2, .int 1), (0, .ref h), (1, .int x1)]) hx hb dX11_next_15 rfl hl (by decide) rfl (fun ls hl => ?_)
    exact br_next_16L fu _ _ _ hB p e s0 m below meth c A E H locs ls hP hD hS (lv_sub hl [1, 2, 0] rfl)
  · have hB := if_p hB c3
    refine lv_iconst (v := (-1)) hx hb dX11_next_8 (by decide) ?_
    exact q_iret C hr hlocks hK hP hD hS (Nat.le_of_ble_eq_true rfl) (Nat.le_of_ble_eq_true rfl) dX11_next_9 (by cases hB; exact ⟨rfl, rfl⟩)
theorem cr_next {l : Launch} {dC : Nat → ClassId} {dI : Nat → Nat → Nat} {cB cI cJ cZ cS : ClassId} {h : Nat} {a : Nat → Nat} {r : Int32} {s' : RS} {s : RS} {x1 : Int32} (hB : r_next s x1 = some (r, s')) : CI l yX11_next wsX11_next ({ frames := 5, cells := 0, slots := 0, locals := 108 }) (dC, dI) (tysA cB cI cJ cZ cS) (mwS cB cI cJ cZ h a s) [.ref h, .int x1] (fun x u => x = r ∧ u = (mwS cB cI cJ cZ h a s')) :=
  CI_of (cc := cX11_next) (maxL := 3) (ret := (some .int)) (by decide) rfl (Nat.le_of_ble_eq_true rfl) (br_next _ _ hB)
theorem LX11_year_289 : Cond.fieldLink RX11 289 "GuessFerryModel" "lots" "I" ∈ wsX11_year := by decide +kernel
theorem inX11_year_X11 : ∀ w ∈ u_ws RX11 TX11 58, w ∈ wsX11_year := by decide +kernel
set_option maxHeartbeats 4000000 in
set_option maxRecDepth 100000 in
theorem br_year_46 {l : Launch} {dC : Nat → ClassId} {dI : Nat → Nat → Nat} {cB cI cJ cZ cS : ClassId} {h : Nat} {a : Nat → Nat} {as : List Value} {r : Int32} {s' : RS} {k29 : RS → Int32 → Int32 → Int32 → Int32 → Option (Int32 × RS)} (hk29 : ∀ (s : RS) (x1 : Int32) (x2 : Int32) (x3 : Int32) (x4 : Int32), k29 s x1 x2 x3 x4 = some (r, s') → BlkI l yX11_year wsX11_year ({ frames := 4, cells := 0, slots := 0, locals := 90 }) cX11_year 5 (some .int) (dC, dI) (tysA cB cI cJ cZ cS) as 29 (mwS cB cI cJ cZ h a s) [(0, .ref h), (1, .int x1), (2, .int x2), (3, .int x3), (4, .int x4)] [] (fun x u => x = r ∧ u = (mwS cB cI cJ cZ h a s'))) (s : RS) (x1 : Int32) (x2 : Int32) (x3 : Int32) (x4 : Int32) (hB : r_year_46 k29 s x1 x2 x3 x4 = some (r, s')) : BlkI l yX11_year wsX11_year ({ frames := 4, cells := 0, slots := 0, locals := 90 }) cX11_year 5 (some .int) (dC, dI) (tysA cB cI cJ cZ cS) as 46 (mwS cB cI cJ cZ h a s) [(0, .ref h), (1, .int x1), (2, .int x2), (3, .int x3), (4, .int x4)] [] (fun x u => x = r ∧ u = (mwS cB cI cJ cZ h a s')) := by
  intro p e s0 m below meth c A E H locs ls hP hD hS hl
  obtain ⟨C, hr, hlocks, hA, hK, hN⟩ := id E
  obtain ⟨hx, hb, hml, hown, hts⟩ := id C
  unfold r_year_46 at hB
  refine lv_aload_n hx hb dX11_year_46 rfl (lv_at hl 0 rfl) ?_
  refine lv_dup hx hb dX11_year_47 rfl ?_
  refine q_get (v := .int (s.v 45)) C inX11_year_X11 hK hP 0 rfl rfl 45 (by decide) rfl LX11_year_289 rfl dX11_year_48 ?_
  refine lv_iconst (v := 1) hx hb dX11_year_51 (by decide) ?_
  refine lv_iadd hx hb dX11_year_52 ?_
  obtain ⟨s1, hs2, hB⟩ := letS_inv hB
  refine q_put (ty := .int) (w2 := (mwS cB cI cJ cZ h a s1)) tyX11 tyX11_ok nmX11 C inX11_year_X11 hK hP hD hS 0 rfl rfl 45 (by decide) rfl LX11_year_289 rfl (by decide +kernel) (rfl) rfl (Nat.le_of_ble_eq_true rfl) dX11_year_53 (mwS_v45 hs2) (fun H locs hP hD hS => ?_)
  refine lv_iinc (v := (x4 + 1)) (lv' := [(4, .int (x4 + 1)), (0, .ref h), (1, .int x1), (2, .int x2), (3, .int x3)]) hx hb dX11_year_56 hl (k := 4) rfl (rfl) (by decide) rfl (fun ls hl => ?_)
  refine lv_goto (tgt := 29) hx hb dX11_year_59 (by decide) ?_
  exact hk29 _ _ _ _ _ hB p e s0 m below meth c A E H locs ls hP hD hS (lv_sub hl [1, 2, 3, 4, 0] rfl)
set_option maxHeartbeats 4000000 in
set_option maxRecDepth 100000 in
theorem br_year_29 {l : Launch} {dC : Nat → ClassId} {dI : Nat → Nat → Nat} {cB cI cJ cZ cS : ClassId} {h : Nat} {a : Nat → Nat} {as : List Value} {r : Int32} {s' : RS} {k29 : RS → Int32 → Int32 → Int32 → Int32 → Option (Int32 × RS)} (hk29 : ∀ (s : RS) (x1 : Int32) (x2 : Int32) (x3 : Int32) (x4 : Int32), k29 s x1 x2 x3 x4 = some (r, s') → BlkI l yX11_year wsX11_year ({ frames := 4, cells := 0, slots := 0, locals := 90 }) cX11_year 5 (some .int) (dC, dI) (tysA cB cI cJ cZ cS) as 29 (mwS cB cI cJ cZ h a s) [(0, .ref h), (1, .int x1), (2, .int x2), (3, .int x3), (4, .int x4)] [] (fun x u => x = r ∧ u = (mwS cB cI cJ cZ h a s'))) (s : RS) (x1 : Int32) (x2 : Int32) (x3 : Int32) (x4 : Int32) (hB : r_year_29 k29 s x1 x2 x3 x4 = some (r, s')) : BlkI l yX11_year wsX11_year ({ frames := 4, cells := 0, slots := 0, locals := 90 }) cX11_year 5 (some .int) (dC, dI) (tysA cB cI cJ cZ cS) as 29 (mwS cB cI cJ cZ h a s) [(0, .ref h), (1, .int x1), (2, .int x2), (3, .int x3), (4, .int x4)] [] (fun x u => x = r ∧ u = (mwS cB cI cJ cZ h a s')) := by
  intro p e s0 m below meth c A E H locs ls hP hD hS hl
  obtain ⟨C, hr, hlocks, hA, hK, hN⟩ := id E
  obtain ⟨hx, hb, hml, hown, hts⟩ := id C
  unfold r_year_29 at hB
  refine lv_iload hx hb dX11_year_29 (lv_at hl 4 rfl) ?_
  refine lv_iload_n hx hb dX11_year_31 rfl (lv_at hl 2 rfl) ?_
  refine lv_icmp_ge (tgt := 62) hx hb dX11_year_32 (by decide) (fun c1 => ?_) (fun c1 => ?_)
  · have hB := if_p hB c1
    refine lv_iload_n hx hb dX11_year_62 rfl (lv_at hl 3 rfl) ?_
    exact q_iret C hr hlocks hK hP hD hS (Nat.le_of_ble_eq_true rfl) (Nat.le_of_ble_eq_true rfl) dX11_year_63 (by cases hB; exact ⟨rfl, rfl⟩)
  · have hB := if_n hB c1
    refine lv_aload_n hx hb dX11_year_35 rfl (lv_at hl 0 rfl) ?_
    obtain ⟨q_, s2, hc, hB⟩ := bindI_inv hB
    refine q_goiF (va_runV (As := []) (rest := []) C (cr_thereNumber hc _) (cwV 0 hts gX11_year_X11_thereNumber rfl rfl rfl (by decide +kernel) ⟨Nat.le_of_ble_eq_true rfl, Nat.le_of_ble_eq_true rfl⟩) (q_preV hK hP (ci := 11) (q0 := 0) rfl rfl rfl (q_preF hN hK hP hD)) rfl rfl hl.1 rfl (lv_room (Nat.le_of_ble_eq_true rfl)) dX11_year_36 ⟨Nat.le_of_ble_eq_true rfl, Nat.le_of_ble_eq_true rfl⟩) hD hS hA (fun r3 w1 H locs hw hP hD hS => ?_)
    obtain ⟨hq_, hw⟩ := hw; subst hw; subst hq_
    refine lv_iload_n hx hb dX11_year_39 rfl (lv_at hl 1 rfl) ?_
    refine lv_icmp_ne (tgt := 46) hx hb dX11_year_40 (by decide) (fun c4 => ?_) (fun c4 => ?_)
    · have hB := if_n hB c4
      exact br_year_46 (hk29) _ _ _ _ _ hB p e s0 m below meth c A E H locs ls hP hD hS (lv_sub hl [0, 1, 2, 3, 4] rfl)
    · have hB := if_p hB c4
      refine lv_iinc (v := (x3 + 1)) (lv' := [(3, .int (x3 + 1)), (0, .ref h), (1, .int x1), (2, .int x2), (4, .int x4)]) hx hb dX11_year_43 hl (k := 3) rfl (rfl) (by decide) rfl (fun ls hl => ?_)
      exact br_year_46 (hk29) _ _ _ _ _ hB p e s0 m below meth c A E H locs ls hP hD hS (lv_sub hl [1, 2, 3, 0, 4] rfl)
theorem br_year_29L {l : Launch} {dC : Nat → ClassId} {dI : Nat → Nat → Nat} {cB cI cJ cZ cS : ClassId} {h : Nat} {a : Nat → Nat} {as : List Value} {r : Int32} {s' : RS} : ∀ (n : Nat) (s : RS) (x1 : Int32) (x2 : Int32) (x3 : Int32) (x4 : Int32), r_year_29L n s x1 x2 x3 x4 = some (r, s') → BlkI l yX11_year wsX11_year ({ frames := 4, cells := 0, slots := 0, locals := 90 }) cX11_year 5 (some .int) (dC, dI) (tysA cB cI cJ cZ cS) as 29 (mwS cB cI cJ cZ h a s) [(0, .ref h), (1, .int x1), (2, .int x2), (3, .int x3), (4, .int x4)] [] (fun x u => x = r ∧ u = (mwS cB cI cJ cZ h a s')) := by
  intro n
  induction n with
  | zero => intro s x1 x2 x3 x4 hB; exact none_ne hB
  | succ n ih => intro s x1 x2 x3 x4 hB; exact br_year_29 ih _ _ _ _ _ hB
set_option maxHeartbeats 4000000 in
set_option maxRecDepth 100000 in
theorem br_year {l : Launch} {dC : Nat → ClassId} {dI : Nat → Nat → Nat} {cB cI cJ cZ cS : ClassId} {h : Nat} {a : Nat → Nat} {as : List Value} {r : Int32} {s' : RS} (s : RS) (x1 : Int32) (x2 : Int32) (hB : r_year s x1 x2 = some (r, s')) : BlkI l yX11_year wsX11_year ({ frames := 4, cells := 0, slots := 0, locals := 90 }) cX11_year 5 (some .int) (dC, dI) (tysA cB cI cJ cZ cS) as 0 (mwS cB cI cJ cZ h a s) [(0, .ref h), (1, .int x1), (2, .int x2)] [] (fun x u => x = r ∧ u = (mwS cB cI cJ cZ h a s')) := by
  intro p e s0 m below meth c A E H locs ls hP hD hS hl
  obtain ⟨C, hr, hlocks, hA, hK, hN⟩ := id E
  obtain ⟨hx, hb, hml, hown, hts⟩ := id C
  unfold r_year at hB
  refine lv_aload_n hx hb dX11_year_0 rfl (lv_at hl 0 rfl) ?_
  refine lv_iload_n hx hb dX11_year_1 rfl (lv_at hl 1 rfl) ?_
  obtain ⟨q_, s1, hc, hB⟩ := bindI_inv hB
  refine q_goiF (va_runV (As := [.int x1]) (rest := []) C (cr_isGuess hc _) (cwV 1 hts gX11_year_X11_isGuess rfl rfl rfl (by decide +kernel) ⟨Nat.le_of_ble_eq_true rfl, Nat.le_of_ble_eq_true rfl⟩) (q_preV hK hP (ci := 11) (q0 := 0) rfl rfl rfl (q_preF hN hK hP hD)) rfl rfl hl.1 rfl (lv_room (Nat.le_of_ble_eq_true rfl)) dX11_year_2 ⟨Nat.le_of_ble_eq_true rfl, Nat.le_of_ble_eq_true rfl⟩) hD hS hA (fun r2 w1 H locs hw hP hD hS => ?_)
  obtain ⟨hq_, hw⟩ := hw; subst hw; subst hq_
  refine lv_if_eq (tgt := 18) hx hb dX11_year_5 (by decide) (fun c3 => ?_) (fun c3 => ?_)
  · have hB := if_p hB c3
    refine lv_iconst (v := (-1)) hx hb dX11_year_18 (by decide) ?_
    exact q_iret C hr hlocks hK hP hD hS (Nat.le_of_ble_eq_true rfl) (Nat.le_of_ble_eq_true rfl) dX11_year_19 (by cases hB; exact ⟨rfl, rfl⟩)
  · have hB := if_n hB c3
    refine lv_iload_n hx hb dX11_year_8 rfl (lv_at hl 2 rfl) ?_
    refine lv_iconst (v := 1) hx hb dX11_year_9 (by decide) ?_
    refine lv_bipush (v := 20) hx hb dX11_year_10 (by decide) ?_
    obtain ⟨q_, hc, hB⟩ := bindP_inv hB
    refine q_goi0 (va_runS (As := [.int x2, .int 1, .int 20]) (rest := []) C (cr_in hc _) (va_cwS 3 hts gX11_year_X11_in rfl rfl rfl (by decide +kernel) ⟨Nat.le_of_ble_eq_true rfl, Nat.le_of_ble_eq_true rfl⟩) (q_pre0 hN hK) rfl rfl hl.1 rfl (lv_room (Nat.le_of_ble_eq_true rfl)) dX11_year_12 ⟨Nat.le_of_ble_eq_true rfl, Nat.le_of_ble_eq_true rfl⟩) hP hD hS hA (fun r4 w1 H locs hw hP hS => ?_)
    subst hw
    refine lv_if_ne (tgt := 20) hx hb dX11_year_15 (by decide) (fun c5 => ?_) (fun c5 => ?_)
    · have hB := if_n hB c5
      refine lv_aload_n hx hb dX11_year_20 rfl (lv_at hl 0 rfl) ?_
      obtain ⟨s6, hc, hB⟩ := bindP_inv hB
      refine q_govF (va_runV (As := []) (rest := []) C (cr_copies hc _) (cwV 0 hts gX11_year_X11_copies rfl rfl rfl (by decide +kernel) ⟨Nat.le_of_ble_eq_true rfl, Nat.le_of_ble_eq_true rfl⟩) (q_preV hK hP (ci := 11) (q0 := 0) rfl rfl rfl (q_preF hN hK hP hD)) rfl rfl hl.1 rfl (lv_room (Nat.le_of_ble_eq_true rfl)) dX11_year_21 ⟨Nat.le_of_ble_eq_true rfl, Nat.le_of_ble_eq_true rfl⟩) hD hS hA (fun w1 H locs hw hP hD hS => ?_)
      subst hw
      refine lv_iconst (v := 0) hx hb dX11_year_24 (by decide) ?_
      refine lv_istore_n (lv' := [(3, .int 0), (0, .ref h), (1, .int x1), (2, .int x2)]) hx hb dX11_year_25 rfl hl (by decide) rfl (fun ls hl => ?_)
      refine lv_iconst (v := 0) hx hb dX11_year_26 (by decide) ?_
      refine lv_istore (lv' := [(4, .int 0), (3, .int 0), (0, .ref h), (1, .int x1), (2, .int x2)]) hx hb dX11_year_27 hl (by decide) rfl (fun ls hl => ?_)
      exact br_year_29L fu _ _ _ _ _ hB p e s0 m below meth c A E H locs ls hP hD hS (lv_sub hl [2, 3, 4, 1, 0] rfl)
    · have hB := if_p hB c5
      refine lv_iconst (v := (-1)) hx hb dX11_year_18 (by decide) ?_
      exact q_iret C hr hlocks hK hP hD hS (Nat.le_of_ble_eq_true rfl) (Nat.le_of_ble_eq_true rfl) dX11_year_19 (by cases hB; exact ⟨rfl, rfl⟩)
theorem cr_year {l : Launch} {dC : Nat → ClassId} {dI : Nat → Nat → Nat} {cB cI cJ cZ cS : ClassId} {h : Nat} {a : Nat → Nat} {r : Int32} {s' : RS} {s : RS} {x1 : Int32} {x2 : Int32} (hB : r_year s x1 x2 = some (r, s')) : CI l yX11_year wsX11_year ({ frames := 4, cells := 0, slots := 0, locals := 90 }) (dC, dI) (tysA cB cI cJ cZ cS) (mwS cB cI cJ cZ h a s) [.ref h, .int x1, .int x2] (fun x u => x = r ∧ u = (mwS cB cI cJ cZ h a s')) :=
  CI_of (cc := cX11_year) (maxL := 5) (ret := (some .int)) (by decide) rfl (Nat.le_of_ble_eq_true rfl) (br_year _ _ _ hB)
theorem LX11_drawn_289 : Cond.fieldLink RX11 289 "GuessFerryModel" "lots" "I" ∈ wsX11_drawn := by decide +kernel
theorem inX11_drawn_X11 : ∀ w ∈ u_ws RX11 TX11 58, w ∈ wsX11_drawn := by decide +kernel
set_option maxHeartbeats 4000000 in
set_option maxRecDepth 100000 in
theorem br_drawn_29 {l : Launch} {dC : Nat → ClassId} {dI : Nat → Nat → Nat} {cB cI cJ cZ cS : ClassId} {h : Nat} {a : Nat → Nat} {as : List Value} {r : Int32} {s' : RS} {k29 : RS → Int32 → Int32 → Int32 → Int32 → Option (Int32 × RS)} (hk29 : ∀ (s : RS) (x1 : Int32) (x2 : Int32) (x3 : Int32) (x4 : Int32), k29 s x1 x2 x3 x4 = some (r, s') → BlkI l yX11_drawn wsX11_drawn ({ frames := 3, cells := 0, slots := 0, locals := 68 }) cX11_drawn 5 (some .int) (dC, dI) (tysA cB cI cJ cZ cS) as 29 (mwS cB cI cJ cZ h a s) [(0, .ref h), (1, .int x1), (2, .int x2), (3, .int x3), (4, .int x4)] [] (fun x u => x = r ∧ u = (mwS cB cI cJ cZ h a s'))) (s : RS) (x1 : Int32) (x2 : Int32) (x3 : Int32) (x4 : Int32) (hB : r_drawn_29 k29 s x1 x2 x3 x4 = some (r, s')) : BlkI l yX11_drawn wsX11_drawn ({ frames := 3, cells := 0, slots := 0, locals := 68 }) cX11_drawn 5 (some .int) (dC, dI) (tysA cB cI cJ cZ cS) as 29 (mwS cB cI cJ cZ h a s) [(0, .ref h), (1, .int x1), (2, .int x2), (3, .int x3), (4, .int x4)] [] (fun x u => x = r ∧ u = (mwS cB cI cJ cZ h a s')) := by
  intro p e s0 m below meth c A E H locs ls hP hD hS hl
  obtain ⟨C, hr, hlocks, hA, hK, hN⟩ := id E
  obtain ⟨hx, hb, hml, hown, hts⟩ := id C
  unfold r_drawn_29 at hB
  refine lv_iload hx hb dX11_drawn_29 (lv_at hl 4 rfl) ?_
  refine lv_iload_n hx hb dX11_drawn_31 rfl (lv_at hl 2 rfl) ?_
  refine lv_icmp_ge (tgt := 61) hx hb dX11_drawn_32 (by decide) (fun c1 => ?_) (fun c1 => ?_)
  · have hB := if_p hB c1
    refine lv_iload_n hx hb dX11_drawn_61 rfl (lv_at hl 3 rfl) ?_
    obtain ⟨q_, hc, hB⟩ := bindP_inv hB
    refine q_goi0 (va_runS (As := [.int x3]) (rest := []) C (cr_bits hc _) (va_cwS 1 hts gX11_drawn_X11_bits rfl rfl rfl (by decide +kernel) ⟨Nat.le_of_ble_eq_true rfl, Nat.le_of_ble_eq_true rfl⟩) (q_pre0 hN hK) rfl rfl hl.1 rfl (lv_room (Nat.le_of_ble_eq_true rfl)) dX11_drawn_62 ⟨Nat.le_of_ble_eq_true rfl, Nat.le_of_ble_eq_true rfl⟩) hP hD hS hA (fun r2 w1 H locs hw hP hS => ?_)
    subst hw
    exact q_iret C hr hlocks hK hP hD hS (Nat.le_of_ble_eq_true rfl) (Nat.le_of_ble_eq_true rfl) dX11_drawn_65 (by cases hB; exact ⟨rfl, rfl⟩)
  · have hB := if_n hB c1
    refine lv_iload_n hx hb dX11_drawn_35 rfl (lv_at hl 3 rfl) ?_
    refine lv_iconst (v := 1) hx hb dX11_drawn_36 (by decide) ?_
    refine lv_aload_n hx hb dX11_drawn_37 rfl (lv_at hl 0 rfl) ?_
    refine lv_iload_n hx hb dX11_drawn_38 rfl (lv_at hl 1 rfl) ?_
    obtain ⟨q_, s3, hc, hB⟩ := bindI_inv hB
    refine q_goiF (va_runV (As := [.int x1]) (rest := [.int 1, .int x3]) C (cr_thereAt hc _) (cwV 1 hts gX11_drawn_X11_thereAt rfl rfl rfl (by decide +kernel) ⟨Nat.le_of_ble_eq_true rfl, Nat.le_of_ble_eq_true rfl⟩) (q_preV hK hP (ci := 11) (q0 := 0) rfl rfl rfl (q_preF hN hK hP hD)) rfl rfl hl.1 rfl (lv_room (Nat.le_of_ble_eq_true rfl)) dX11_drawn_39 ⟨Nat.le_of_ble_eq_true rfl, Nat.le_of_ble_eq_true rfl⟩) hD hS hA (fun r4 w1 H locs hw hP hD hS => ?_)
    obtain ⟨hq_, hw⟩ := hw; subst hw; subst hq_
    refine lv_ishl hx hb dX11_drawn_42 ?_
    refine lv_ior hx hb dX11_drawn_43 ?_
    refine lv_istore_n (lv' := [(3, .int (x3 ||| (1 <<< (r4 &&& 31)))), (0, .ref h), (1, .int x1), (2, .int x2), (4, .int x4)]) hx hb dX11_drawn_44 rfl hl (by decide) rfl (fun ls hl => ?_)
    refine lv_aload_n hx hb dX11_drawn_45 rfl (lv_at hl 1 rfl) ?_
    refine lv_dup hx hb dX11_drawn_46 rfl ?_
    refine q_get (v := .int (s3.v 45)) C inX11_drawn_X11 hK hP 0 rfl rfl 45 (by decide) rfl LX11_drawn_289 rfl dX11_drawn_47 ?_
    refine lv_iconst (v := 1) hx hb dX11_drawn_50 (by decide) ?_
    refine lv_iadd hx hb dX11_drawn_51 ?_
    obtain ⟨s5, hs6, hB⟩ := letS_inv hB
    refine q_put (ty := .int) (w2 := (mwS cB cI cJ cZ h a s5)) tyX11 tyX11_ok nmX11 C inX11_drawn_X11 hK hP hD hS 0 rfl rfl 45 (by decide) rfl LX11_drawn_289 rfl (by decide +kernel) (rfl) rfl (Nat.le_of_ble_eq_true rfl) dX11_drawn_52 (mwS_v45 hs6) (fun H locs hP hD hS => ?_)
    refine lv_iinc (v := (x4 + 1)) (lv' := [(4, .int (x4 + 1)), (3, .int (x3 ||| (1 <<< (r4 &&& 31)))), (0, .ref h), (1, .int x1), (2, .int x2)]) hx hb dX11_drawn_55 hl (k := 4) rfl (rfl) (by decide) rfl (fun ls hl => ?_)
    refine lv_goto (tgt := 29) hx hb dX11_drawn_58 (by decide) ?_
    exact hk29 _ _ _ _ _ hB p e s0 m below meth c A E H locs ls hP hD hS (lv_sub hl [2, 3, 4, 1, 0] rfl)
theorem br_drawn_29L {l : Launch} {dC : Nat → ClassId} {dI : Nat → Nat → Nat} {cB cI cJ cZ cS : ClassId} {h : Nat} {a : Nat → Nat} {as : List Value} {r : Int32} {s' : RS} : ∀ (n : Nat) (s : RS) (x1 : Int32) (x2 : Int32) (x3 : Int32) (x4 : Int32), r_drawn_29L n s x1 x2 x3 x4 = some (r, s') → BlkI l yX11_drawn wsX11_drawn ({ frames := 3, cells := 0, slots := 0, locals := 68 }) cX11_drawn 5 (some .int) (dC, dI) (tysA cB cI cJ cZ cS) as 29 (mwS cB cI cJ cZ h a s) [(0, .ref h), (1, .int x1), (2, .int x2), (3, .int x3), (4, .int x4)] [] (fun x u => x = r ∧ u = (mwS cB cI cJ cZ h a s')) := by
  intro n
  induction n with
  | zero => intro s x1 x2 x3 x4 hB; exact none_ne hB
  | succ n ih => intro s x1 x2 x3 x4 hB; exact br_drawn_29 ih _ _ _ _ _ hB
set_option maxHeartbeats 4000000 in
set_option maxRecDepth 100000 in
theorem br_drawn {l : Launch} {dC : Nat → ClassId} {dI : Nat → Nat → Nat} {cB cI cJ cZ cS : ClassId} {h : Nat} {a : Nat → Nat} {as : List Value} {r : Int32} {s' : RS} (s : RS) (x1 : Int32) (x2 : Int32) (hB : r_drawn s x1 x2 = some (r, s')) : BlkI l yX11_drawn wsX11_drawn ({ frames := 3, cells := 0, slots := 0, locals := 68 }) cX11_drawn 5 (some .int) (dC, dI) (tysA cB cI cJ cZ cS) as 0 (mwS cB cI cJ cZ h a s) [(0, .ref h), (1, .int x1), (2, .int x2)] [] (fun x u => x = r ∧ u = (mwS cB cI cJ cZ h a s')) := by
  intro p e s0 m below meth c A E H locs ls hP hD hS hl
  obtain ⟨C, hr, hlocks, hA, hK, hN⟩ := id E
  obtain ⟨hx, hb, hml, hown, hts⟩ := id C
  unfold r_drawn at hB
  refine lv_aload_n hx hb dX11_drawn_0 rfl (lv_at hl 0 rfl) ?_
  refine lv_iload_n hx hb dX11_drawn_1 rfl (lv_at hl 1 rfl) ?_
  obtain ⟨q_, s1, hc, hB⟩ := bindI_inv hB
  refine q_goiF (va_runV (As := [.int x1]) (rest := []) C (cr_isWave hc _) (cwV 1 hts gX11_drawn_X11_isWave rfl rfl rfl (by decide +kernel) ⟨Nat.le_of_ble_eq_true rfl, Nat.le_of_ble_eq_true rfl⟩) (q_preV hK hP (ci := 11) (q0 := 0) rfl rfl rfl (q_preF hN hK hP hD)) rfl rfl hl.1 rfl (lv_room (Nat.le_of_ble_eq_true rfl)) dX11_drawn_2 ⟨Nat.le_of_ble_eq_true rfl, Nat.le_of_ble_eq_true rfl⟩) hD hS hA (fun r2 w1 H locs hw hP hD hS => ?_)
  obtain ⟨hq_, hw⟩ := hw; subst hw; subst hq_
  refine lv_if_eq (tgt := 18) hx hb dX11_drawn_5 (by decide) (fun c3 => ?_) (fun c3 => ?_)
  · have hB := if_p hB c3
    refine lv_iconst (v := (-1)) hx hb dX11_drawn_18 (by decide) ?_
    exact q_iret C hr hlocks hK hP hD hS (Nat.le_of_ble_eq_true rfl) (Nat.le_of_ble_eq_true rfl) dX11_drawn_19 (by cases hB; exact ⟨rfl, rfl⟩)
  · have hB := if_n hB c3
    refine lv_iload_n hx hb dX11_drawn_8 rfl (lv_at hl 2 rfl) ?_
    refine lv_iconst (v := 1) hx hb dX11_drawn_9 (by decide) ?_
    refine lv_bipush (v := 20) hx hb dX11_drawn_10 (by decide) ?_
    obtain ⟨q_, hc, hB⟩ := bindP_inv hB
    refine q_goi0 (va_runS (As := [.int x2, .int 1, .int 20]) (rest := []) C (cr_in hc _) (va_cwS 3 hts gX11_drawn_X11_in rfl rfl rfl (by decide +kernel) ⟨Nat.le_of_ble_eq_true rfl, Nat.le_of_ble_eq_true rfl⟩) (q_pre0 hN hK) rfl rfl hl.1 rfl (lv_room (Nat.le_of_ble_eq_true rfl)) dX11_drawn_12 ⟨Nat.le_of_ble_eq_true rfl, Nat.le_of_ble_eq_true rfl⟩) hP hD hS hA (fun r4 w1 H locs hw hP hS => ?_)
    subst hw
    refine lv_if_ne (tgt := 20) hx hb dX11_drawn_15 (by decide) (fun c5 => ?_) (fun c5 => ?_)
    · have hB := if_n hB c5
      refine lv_aload_n hx hb dX11_drawn_20 rfl (lv_at hl 0 rfl) ?_
      obtain ⟨s6, hc, hB⟩ := bindP_inv hB
      refine q_govF (va_runV (As := []) (rest := []) C (cr_copies hc _) (cwV 0 hts gX11_drawn_X11_copies rfl rfl rfl (by decide +kernel) ⟨Nat.le_of_ble_eq_true rfl, Nat.le_of_ble_eq_true rfl⟩) (q_preV hK hP (ci := 11) (q0 := 0) rfl rfl rfl (q_preF hN hK hP hD)) rfl rfl hl.1 rfl (lv_room (Nat.le_of_ble_eq_true rfl)) dX11_drawn_21 ⟨Nat.le_of_ble_eq_true rfl, Nat.le_of_ble_eq_true rfl⟩) hD hS hA (fun w1 H locs hw hP hD hS => ?_)
      subst hw
      refine lv_iconst (v := 0) hx hb dX11_drawn_24 (by decide) ?_
      refine lv_istore_n (lv' := [(3, .int 0), (0, .ref h), (1, .int x1), (2, .int x2)]) hx hb dX11_drawn_25 rfl hl (by decide) rfl (fun ls hl => ?_)
      refine lv_iconst (v := 0) hx hb dX11_drawn_26 (by decide) ?_
      refine lv_istore (lv' := [(4, .int 0), (3, .int 0), (0, .ref h), (1, .int x1), (2, .int x2)]) hx hb dX11_drawn_27 hl (by decide) rfl (fun ls hl => ?_)
      exact br_drawn_29L fu _ _ _ _ _ hB p e s0 m below meth c A E H locs ls hP hD hS (lv_sub hl [2, 3, 4, 1, 0] rfl)
    · have hB := if_p hB c5
      refine lv_iconst (v := (-1)) hx hb dX11_drawn_18 (by decide) ?_
      exact q_iret C hr hlocks hK hP hD hS (Nat.le_of_ble_eq_true rfl) (Nat.le_of_ble_eq_true rfl) dX11_drawn_19 (by cases hB; exact ⟨rfl, rfl⟩)
theorem cr_drawn {l : Launch} {dC : Nat → ClassId} {dI : Nat → Nat → Nat} {cB cI cJ cZ cS : ClassId} {h : Nat} {a : Nat → Nat} {r : Int32} {s' : RS} {s : RS} {x1 : Int32} {x2 : Int32} (hB : r_drawn s x1 x2 = some (r, s')) : CI l yX11_drawn wsX11_drawn ({ frames := 3, cells := 0, slots := 0, locals := 68 }) (dC, dI) (tysA cB cI cJ cZ cS) (mwS cB cI cJ cZ h a s) [.ref h, .int x1, .int x2] (fun x u => x = r ∧ u = (mwS cB cI cJ cZ h a s')) :=
  CI_of (cc := cX11_drawn) (maxL := 5) (ret := (some .int)) (by decide) rfl (Nat.le_of_ble_eq_true rfl) (br_drawn _ _ _ hB)
theorem LX11_tell_116 : Cond.fieldLink RX11 116 "GuessFerryModel" "toldWave" "[I" ∈ wsX11_tell := by decide +kernel
theorem LX11_tell_119 : Cond.fieldLink RX11 119 "GuessFerryModel" "toldThings" "[I" ∈ wsX11_tell := by decide +kernel
theorem LX11_tell_122 : Cond.fieldLink RX11 122 "GuessFerryModel" "toldSo" "[Z" ∈ wsX11_tell := by decide +kernel
theorem LX11_tell_233 : Cond.fieldLink RX11 233 "GuessFerryModel" "tolds" "I" ∈ wsX11_tell := by decide +kernel
theorem inX11_tell_X11 : ∀ w ∈ u_ws RX11 TX11 58, w ∈ wsX11_tell := by decide +kernel
set_option maxHeartbeats 4000000 in
set_option maxRecDepth 100000 in
theorem br_tell {l : Launch} {dC : Nat → ClassId} {dI : Nat → Nat → Nat} {cB cI cJ cZ cS : ClassId} {h : Nat} {a : Nat → Nat} {as : List Value} {r : Int32} {s' : RS} (s : RS) (x1 : Int32) (x2 : Int32) (x3 : Int32) (hB : r_tell s x1 x2 x3 = some (r, s')) : BlkI l yX11_tell wsX11_tell ({ frames := 2, cells := 0, slots := 0, locals := 43 }) cX11_tell 4 (some .int) (dC, dI) (tysA cB cI cJ cZ cS) as 0 (mwS cB cI cJ cZ h a s) [(0, .ref h), (1, .int x1), (2, .int x2), (3, .int x3)] [] (fun x u => x = r ∧ u = (mwS cB cI cJ cZ h a s')) := by
  intro p e s0 m below meth c A E H locs ls hP hD hS hl
  obtain ⟨C, hr, hlocks, hA, hK, hN⟩ := id E
  obtain ⟨hx, hb, hml, hown, hts⟩ := id C
  unfold r_tell at hB
  refine lv_aload_n hx hb dX11_tell_0 rfl (lv_at hl 0 rfl) ?_
  refine q_get (v := .int (s.v 51)) C inX11_tell_X11 hK hP 0 rfl rfl 51 (by decide) rfl LX11_tell_233 rfl dX11_tell_1 ?_
  refine lv_bipush (v := 20) hx hb dX11_tell_4 (by decide) ?_
  refine lv_icmp_eq (tgt := 27) hx hb dX11_tell_6 (by decide) (fun c1 => ?_) (fun c1 => ?_)
  · have hB := if_p hB c1
    refine lv_iconst (v := (-1)) hx hb dX11_tell_27 (by decide) ?_
    exact q_iret C hr hlocks hK hP hD hS (Nat.le_of_ble_eq_true rfl) (Nat.le_of_ble_eq_true rfl) dX11_tell_28 (by cases hB; exact ⟨rfl, rfl⟩)
  · have hB := if_n hB c1
    refine lv_aload_n hx hb dX11_tell_9 rfl (lv_at hl 0 rfl) ?_
    refine lv_iload_n hx hb dX11_tell_10 rfl (lv_at hl 1 rfl) ?_
    obtain ⟨q_, s2, hc, hB⟩ := bindI_inv hB
    refine q_goiF (va_runV (As := [.int x1]) (rest := []) C (cr_isWave hc _) (cwV 1 hts gX11_tell_X11_isWave rfl rfl rfl (by decide +kernel) ⟨Nat.le_of_ble_eq_true rfl, Nat.le_of_ble_eq_true rfl⟩) (q_preV hK hP (ci := 11) (q0 := 0) rfl rfl rfl (q_preF hN hK hP hD)) rfl rfl hl.1 rfl (lv_room (Nat.le_of_ble_eq_true rfl)) dX11_tell_11 ⟨Nat.le_of_ble_eq_true rfl, Nat.le_of_ble_eq_true rfl⟩) hD hS hA (fun r3 w1 H locs hw hP hD hS => ?_)
    obtain ⟨hq_, hw⟩ := hw; subst hw; subst hq_
    refine lv_if_eq (tgt := 27) hx hb dX11_tell_14 (by decide) (fun c4 => ?_) (fun c4 => ?_)
    · have hB := if_p hB c4
      refine lv_iconst (v := (-1)) hx hb dX11_tell_27 (by decide) ?_
      exact q_iret C hr hlocks hK hP hD hS (Nat.le_of_ble_eq_true rfl) (Nat.le_of_ble_eq_true rfl) dX11_tell_28 (by cases hB; exact ⟨rfl, rfl⟩)
    · have hB := if_n hB c4
      refine lv_iload_n hx hb dX11_tell_17 rfl (lv_at hl 2 rfl) ?_
      refine lv_iconst (v := 1) hx hb dX11_tell_18 (by decide) ?_
      refine lv_bipush (v := 63) hx hb dX11_tell_19 (by decide) ?_
      obtain ⟨q_, hc, hB⟩ := bindP_inv hB
      refine q_goi0 (va_runS (As := [.int x2, .int 1, .int 63]) (rest := []) C (cr_in hc _) (va_cwS 3 hts gX11_tell_X11_in rfl rfl rfl (by decide +kernel) ⟨Nat.le_of_ble_eq_true rfl, Nat.le_of_ble_eq_true rfl⟩) (q_pre0 hN hK) rfl rfl hl.1 rfl (lv_room (Nat.le_of_ble_eq_true rfl)) dX11_tell_21 ⟨Nat.le_of_ble_eq_true rfl, Nat.le_of_ble_eq_true rfl⟩) hP hD hS hA (fun r5 w1 H locs hw hP hS => ?_)
      subst hw
      refine lv_if_ne (tgt := 29) hx hb dX11_tell_24 (by decide) (fun c6 => ?_) (fun c6 => ?_)
      · have hB := if_n hB c6
        refine lv_aload_n hx hb dX11_tell_29 rfl (lv_at hl 0 rfl) ?_
        refine q_get (v := .ref (a 52)) C inX11_tell_X11 hK hP 0 rfl rfl 52 (by decide) rfl LX11_tell_116 rfl dX11_tell_30 ?_
        refine lv_aload_n hx hb dX11_tell_33 rfl (lv_at hl 0 rfl) ?_
        refine q_get (v := .int (s2.v 51)) C inX11_tell_X11 hK hP 0 rfl rfl 51 (by decide) rfl LX11_tell_233 rfl dX11_tell_34 ?_
        refine lv_iload_n hx hb dX11_tell_37 rfl (lv_at hl 1 rfl) ?_
        obtain ⟨g7, hB⟩ := guard_inv hB
        obtain ⟨s8, hs9, hB⟩ := letS_inv hB
        refine q_iast (f2 := (upd (s2.f 52) (Int32.toNatClampNeg (s2.v 51)) x1)) (w2 := (mwS cB cI cJ cZ h a s8)) C hK hP hD hS 33 1 rfl rfl (vpb_in g7) dX11_tell_38 rfl (mwS_f52 hs9) (fun H locs hP hD hS => ?_)
        refine lv_aload_n hx hb dX11_tell_39 rfl (lv_at hl 0 rfl) ?_
        refine q_get (v := .ref (a 53)) C inX11_tell_X11 hK hP 0 rfl rfl 53 (by decide) rfl LX11_tell_119 rfl dX11_tell_40 ?_
        refine lv_aload_n hx hb dX11_tell_43 rfl (lv_at hl 0 rfl) ?_
        refine q_get (v := .int (s8.v 51)) C inX11_tell_X11 hK hP 0 rfl rfl 51 (by decide) rfl LX11_tell_233 rfl dX11_tell_44 ?_
        refine lv_iload_n hx hb dX11_tell_47 rfl (lv_at hl 2 rfl) ?_
        obtain ⟨g10, hB⟩ := guard_inv hB
        obtain ⟨s11, hs12, hB⟩ := letS_inv hB
        refine q_iast (f2 := (upd (s8.f 53) (Int32.toNatClampNeg (s8.v 51)) x2)) (w2 := (mwS cB cI cJ cZ h a s11)) C hK hP hD hS 34 1 rfl rfl (vpb_in g10) dX11_tell_48 rfl (mwS_f53 hs12) (fun H locs hP hD hS => ?_)
        refine lv_aload_n hx hb dX11_tell_49 rfl (lv_at hl 0 rfl) ?_
        refine q_get (v := .ref (a 54)) C inX11_tell_X11 hK hP 0 rfl rfl 54 (by decide) rfl LX11_tell_122 rfl dX11_tell_50 ?_
        refine lv_aload_n hx hb dX11_tell_53 rfl (lv_at hl 0 rfl) ?_
        refine q_get (v := .int (s11.v 51)) C inX11_tell_X11 hK hP 0 rfl rfl 51 (by decide) rfl LX11_tell_233 rfl dX11_tell_54 ?_
        refine lv_iload_n hx hb dX11_tell_57 rfl (lv_at hl 3 rfl) ?_
        obtain ⟨g13, hB⟩ := guard_inv hB
        obtain ⟨s14, hs15, hB⟩ := letS_inv hB
        refine q_zast (f2 := (upd (s11.f 54) (Int32.toNatClampNeg (s11.v 51)) (vp_nar .boolean x3))) (w2 := (mwS cB cI cJ cZ h a s14)) C hK hP hD hS 35 3 rfl rfl (vpb_in g13) dX11_tell_58 rfl (mwS_f54 hs15) (fun H locs hP hD hS => ?_)
        refine lv_aload_n hx hb dX11_tell_59 rfl (lv_at hl 0 rfl) ?_
        refine lv_dup hx hb dX11_tell_60 rfl ?_
        refine q_get (v := .int (s14.v 51)) C inX11_tell_X11 hK hP 0 rfl rfl 51 (by decide) rfl LX11_tell_233 rfl dX11_tell_61 ?_
        refine lv_iconst (v := 1) hx hb dX11_tell_64 (by decide) ?_
        refine lv_iadd hx hb dX11_tell_65 ?_
        obtain ⟨s16, hs17, hB⟩ := letS_inv hB
        refine q_put (ty := .int) (w2 := (mwS cB cI cJ cZ h a s16)) tyX11 tyX11_ok nmX11 C inX11_tell_X11 hK hP hD hS 0 rfl rfl 51 (by decide) rfl LX11_tell_233 rfl (by decide +kernel) (rfl) rfl (Nat.le_of_ble_eq_true rfl) dX11_tell_66 (mwS_v51 hs17) (fun H locs hP hD hS => ?_)
        refine lv_aload_n hx hb dX11_tell_69 rfl (lv_at hl 0 rfl) ?_
        refine q_get (v := .int (s16.v 51)) C inX11_tell_X11 hK hP 0 rfl rfl 51 (by decide) rfl LX11_tell_233 rfl dX11_tell_70 ?_
        refine lv_iconst (v := 1) hx hb dX11_tell_73 (by decide) ?_
        refine lv_isub hx hb dX11_tell_74 ?_
        exact q_iret C hr hlocks hK hP hD hS (Nat.le_of_ble_eq_true rfl) (Nat.le_of_ble_eq_true rfl) dX11_tell_75 (by cases hB; exact ⟨rfl, rfl⟩)
      · have hB := if_p hB c6
        refine lv_iconst (v := (-1)) hx hb dX11_tell_27 (by decide) ?_
        exact q_iret C hr hlocks hK hP hD hS (Nat.le_of_ble_eq_true rfl) (Nat.le_of_ble_eq_true rfl) dX11_tell_28 (by cases hB; exact ⟨rfl, rfl⟩)
theorem cr_tell {l : Launch} {dC : Nat → ClassId} {dI : Nat → Nat → Nat} {cB cI cJ cZ cS : ClassId} {h : Nat} {a : Nat → Nat} {r : Int32} {s' : RS} {s : RS} {x1 : Int32} {x2 : Int32} {x3 : Int32} (hB : r_tell s x1 x2 x3 = some (r, s')) : CI l yX11_tell wsX11_tell ({ frames := 2, cells := 0, slots := 0, locals := 43 }) (dC, dI) (tysA cB cI cJ cZ cS) (mwS cB cI cJ cZ h a s) [.ref h, .int x1, .int x2, .int x3] (fun x u => x = r ∧ u = (mwS cB cI cJ cZ h a s')) :=
  CI_of (cc := cX11_tell) (maxL := 4) (ret := (some .int)) (by decide) rfl (Nat.le_of_ble_eq_true rfl) (br_tell _ _ _ _ hB)
theorem LX11_forget_233 : Cond.fieldLink RX11 233 "GuessFerryModel" "tolds" "I" ∈ wsX11_forget := by decide +kernel
theorem inX11_forget_X11 : ∀ w ∈ u_ws RX11 TX11 58, w ∈ wsX11_forget := fun _ h => List.mem_cons_of_mem _ (List.mem_append_right _ h)
set_option maxHeartbeats 4000000 in
set_option maxRecDepth 100000 in
theorem br_forget {l : Launch} {dC : Nat → ClassId} {dI : Nat → Nat → Nat} {cB cI cJ cZ cS : ClassId} {h : Nat} {a : Nat → Nat} {as : List Value} {r : Int32} {s' : RS} (s : RS) (hB : r_forget s = some (r, s')) : BlkI l yX11_forget wsX11_forget ({ frames := 0, cells := 0, slots := 0, locals := 0 }) cX11_forget 2 (some .int) (dC, dI) (tysA cB cI cJ cZ cS) as 0 (mwS cB cI cJ cZ h a s) [(0, .ref h)] [] (fun x u => x = r ∧ u = (mwS cB cI cJ cZ h a s')) := by
  intro p e s0 m below meth c A E H locs ls hP hD hS hl
  obtain ⟨C, hr, hlocks, hA, hK, hN⟩ := id E
  obtain ⟨hx, hb, hml, hown, hts⟩ := id C
  unfold r_forget at hB
  refine lv_aload_n hx hb dX11_forget_0 rfl (lv_at hl 0 rfl) ?_
  refine q_get (v := .int (s.v 51)) C inX11_forget_X11 hK hP 0 rfl rfl 51 (by decide) rfl LX11_forget_233 rfl dX11_forget_1 ?_
  refine lv_istore_n (lv' := [(1, .int (s.v 51)), (0, .ref h)]) hx hb dX11_forget_4 rfl hl (by decide) rfl (fun ls hl => ?_)
  refine lv_aload_n hx hb dX11_forget_5 rfl (lv_at hl 1 rfl) ?_
  refine lv_iconst (v := 0) hx hb dX11_forget_6 (by decide) ?_
  obtain ⟨s1, hs2, hB⟩ := letS_inv hB
  refine q_put (ty := .int) (w2 := (mwS cB cI cJ cZ h a s1)) tyX11 tyX11_ok nmX11 C inX11_forget_X11 hK hP hD hS 0 rfl rfl 51 (by decide) rfl LX11_forget_233 rfl (by decide +kernel) (rfl) rfl (Nat.le_of_ble_eq_true rfl) dX11_forget_7 (mwS_v51 hs2) (fun H locs hP hD hS => ?_)
  refine lv_iload_n hx hb dX11_forget_10 rfl (lv_at hl 0 rfl) ?_
  exact q_iret C hr hlocks hK hP hD hS (Nat.le_of_ble_eq_true rfl) (Nat.le_of_ble_eq_true rfl) dX11_forget_11 (by cases hB; exact ⟨rfl, rfl⟩)
theorem cr_forget {l : Launch} {dC : Nat → ClassId} {dI : Nat → Nat → Nat} {cB cI cJ cZ cS : ClassId} {h : Nat} {a : Nat → Nat} {r : Int32} {s' : RS} {s : RS} (hB : r_forget s = some (r, s')) : CI l yX11_forget wsX11_forget ({ frames := 0, cells := 0, slots := 0, locals := 0 }) (dC, dI) (tysA cB cI cJ cZ cS) (mwS cB cI cJ cZ h a s) [.ref h] (fun x u => x = r ∧ u = (mwS cB cI cJ cZ h a s')) :=
  CI_of (cc := cX11_forget) (maxL := 2) (ret := (some .int)) (by decide) rfl (Nat.le_of_ble_eq_true rfl) (br_forget _ hB)
theorem LX11_isSo_116 : Cond.fieldLink RX11 116 "GuessFerryModel" "toldWave" "[I" ∈ wsX11_isSo := by decide +kernel
theorem LX11_isSo_119 : Cond.fieldLink RX11 119 "GuessFerryModel" "toldThings" "[I" ∈ wsX11_isSo := by decide +kernel
theorem LX11_isSo_122 : Cond.fieldLink RX11 122 "GuessFerryModel" "toldSo" "[Z" ∈ wsX11_isSo := by decide +kernel
theorem inX11_isSo_X11 : ∀ w ∈ u_ws RX11 TX11 58, w ∈ wsX11_isSo := by decide +kernel
set_option maxHeartbeats 4000000 in
set_option maxRecDepth 100000 in
theorem br_isSo_29 {l : Launch} {dC : Nat → ClassId} {dI : Nat → Nat → Nat} {cB cI cJ cZ cS : ClassId} {h : Nat} {a : Nat → Nat} {as : List Value} {r : Int32} {s' : RS} (s : RS) (x2 : Int32) (t0 : Int32) (hB : r_isSo_29 s x2 t0 = some (r, s')) : BlkI l yX11_isSo wsX11_isSo ({ frames := 1, cells := 0, slots := 0, locals := 22 }) cX11_isSo 3 (some .boolean) (dC, dI) (tysA cB cI cJ cZ cS) as 29 (mwS cB cI cJ cZ h a s) [(0, .ref h), (2, .int x2)] [.int t0] (fun x u => x = r ∧ u = (mwS cB cI cJ cZ h a s')) := by
  intro p e s0 m below meth c A E H locs ls hP hD hS hl
  obtain ⟨C, hr, hlocks, hA, hK, hN⟩ := id E
  obtain ⟨hx, hb, hml, hown, hts⟩ := id C
  unfold r_isSo_29 at hB
  refine lv_aload_n hx hb dX11_isSo_29 rfl (lv_at hl 0 rfl) ?_
  refine q_get (v := .ref (a 54)) C inX11_isSo_X11 hK hP 0 rfl rfl 54 (by decide) rfl LX11_isSo_122 rfl dX11_isSo_30 ?_
  refine lv_iload_n hx hb dX11_isSo_33 rfl (lv_at hl 1 rfl) ?_
  obtain ⟨g1, hB⟩ := guard_inv hB
  refine q_zald (x := (s.f 54 (Int32.toNatClampNeg x2))) C hK hP 35 3 rfl rfl (vpb_in g1) dX11_isSo_34 rfl ?_
  refine lv_icmp_ne (tgt := 42) hx hb dX11_isSo_35 (by decide) (fun c2 => ?_) (fun c2 => ?_)
  · have hB := if_n hB c2
    refine lv_iconst (v := 0) hx hb dX11_isSo_42 (by decide) ?_
    exact q_zret C hr hlocks (Or.inl rfl) hK hP hD hS (Nat.le_of_ble_eq_true rfl) (Nat.le_of_ble_eq_true rfl) dX11_isSo_43 (by cases hB; exact ⟨rfl, rfl⟩)
  · have hB := if_p hB c2
    refine lv_iconst (v := 1) hx hb dX11_isSo_38 (by decide) ?_
    refine lv_goto (tgt := 43) hx hb dX11_isSo_39 (by decide) ?_
    exact q_zret C hr hlocks (Or.inr rfl) hK hP hD hS (Nat.le_of_ble_eq_true rfl) (Nat.le_of_ble_eq_true rfl) dX11_isSo_43 (by cases hB; exact ⟨rfl, rfl⟩)
set_option maxHeartbeats 4000000 in
set_option maxRecDepth 100000 in
theorem br_isSo {l : Launch} {dC : Nat → ClassId} {dI : Nat → Nat → Nat} {cB cI cJ cZ cS : ClassId} {h : Nat} {a : Nat → Nat} {as : List Value} {r : Int32} {s' : RS} (s : RS) (x1 : Int32) (x2 : Int32) (hB : r_isSo s x1 x2 = some (r, s')) : BlkI l yX11_isSo wsX11_isSo ({ frames := 1, cells := 0, slots := 0, locals := 22 }) cX11_isSo 3 (some .boolean) (dC, dI) (tysA cB cI cJ cZ cS) as 0 (mwS cB cI cJ cZ h a s) [(0, .ref h), (1, .int x1), (2, .int x2)] [] (fun x u => x = r ∧ u = (mwS cB cI cJ cZ h a s')) := by
  intro p e s0 m below meth c A E H locs ls hP hD hS hl
  obtain ⟨C, hr, hlocks, hA, hK, hN⟩ := id E
  obtain ⟨hx, hb, hml, hown, hts⟩ := id C
  unfold r_isSo at hB
  refine lv_aload_n hx hb dX11_isSo_0 rfl (lv_at hl 0 rfl) ?_
  refine q_get (v := .ref (a 53)) C inX11_isSo_X11 hK hP 0 rfl rfl 53 (by decide) rfl LX11_isSo_119 rfl dX11_isSo_1 ?_
  refine lv_iload_n hx hb dX11_isSo_4 rfl (lv_at hl 2 rfl) ?_
  obtain ⟨g1, hB⟩ := guard_inv hB
  refine q_iald (x := (s.f 53 (Int32.toNatClampNeg x2))) C hK hP 34 1 rfl rfl (vpb_in g1) dX11_isSo_5 rfl ?_
  refine lv_aload_n hx hb dX11_isSo_6 rfl (lv_at hl 0 rfl) ?_
  refine lv_iload_n hx hb dX11_isSo_7 rfl (lv_at hl 1 rfl) ?_
  refine lv_aload_n hx hb dX11_isSo_8 rfl (lv_at hl 0 rfl) ?_
  refine q_get (v := .ref (a 52)) C inX11_isSo_X11 hK hP 0 rfl rfl 52 (by decide) rfl LX11_isSo_116 rfl dX11_isSo_9 ?_
  refine lv_iload_n hx hb dX11_isSo_12 rfl (lv_at hl 2 rfl) ?_
  obtain ⟨g2, hB⟩ := guard_inv hB
  refine q_iald (x := (s.f 52 (Int32.toNatClampNeg x2))) C hK hP 33 1 rfl rfl (vpb_in g2) dX11_isSo_13 rfl ?_
  obtain ⟨q_, s3, hc, hB⟩ := bindI_inv hB
  refine q_goiF (va_runV (As := [.int x1, .int (s.f 52 (Int32.toNatClampNeg x2))]) (rest := [.int (s.f 53 (Int32.toNatClampNeg x2))]) C (cr_thingAt hc _) (cwV 2 hts gX11_isSo_X11_thingAt rfl rfl rfl (by decide +kernel) ⟨Nat.le_of_ble_eq_true rfl, Nat.le_of_ble_eq_true rfl⟩) (q_preV hK hP (ci := 11) (q0 := 0) rfl rfl rfl (q_preF hN hK hP hD)) rfl rfl hl.1 rfl (lv_room (Nat.le_of_ble_eq_true rfl)) dX11_isSo_14 ⟨Nat.le_of_ble_eq_true rfl, Nat.le_of_ble_eq_true rfl⟩) hD hS hA (fun r4 w1 H locs hw hP hD hS => ?_)
  obtain ⟨hq_, hw⟩ := hw; subst hw; subst hq_
  refine lv_ishr hx hb dX11_isSo_17 ?_
  refine lv_iconst (v := 1) hx hb dX11_isSo_18 (by decide) ?_
  refine lv_iand hx hb dX11_isSo_19 ?_
  refine lv_iconst (v := 1) hx hb dX11_isSo_20 (by decide) ?_
  refine lv_icmp_ne (tgt := 28) hx hb dX11_isSo_21 (by decide) (fun c5 => ?_) (fun c5 => ?_)
  · have hB := if_n hB c5
    refine lv_iconst (v := 0) hx hb dX11_isSo_28 (by decide) ?_
    exact br_isSo_29 _ _ _ hB p e s0 m below meth c A E H locs ls hP hD hS (lv_sub hl [0, 2] rfl)
  · have hB := if_p hB c5
    refine lv_iconst (v := 1) hx hb dX11_isSo_24 (by decide) ?_
    refine lv_goto (tgt := 29) hx hb dX11_isSo_25 (by decide) ?_
    exact br_isSo_29 _ _ _ hB p e s0 m below meth c A E H locs ls hP hD hS (lv_sub hl [0, 2] rfl)
theorem cr_isSo {l : Launch} {dC : Nat → ClassId} {dI : Nat → Nat → Nat} {cB cI cJ cZ cS : ClassId} {h : Nat} {a : Nat → Nat} {r : Int32} {s' : RS} {s : RS} {x1 : Int32} {x2 : Int32} (hB : r_isSo s x1 x2 = some (r, s')) : CI l yX11_isSo wsX11_isSo ({ frames := 1, cells := 0, slots := 0, locals := 22 }) (dC, dI) (tysA cB cI cJ cZ cS) (mwS cB cI cJ cZ h a s) [.ref h, .int x1, .int x2] (fun x u => x = r ∧ u = (mwS cB cI cJ cZ h a s')) :=
  CI_of (cc := cX11_isSo) (maxL := 3) (ret := (some .boolean)) (by decide) rfl (Nat.le_of_ble_eq_true rfl) (br_isSo _ _ _ hB)
theorem LX11_doesFit_113 : Cond.fieldLink RX11 113 "GuessFerryModel" "chanceBy" "[I" ∈ wsX11_doesFit := by decide +kernel
theorem inX11_doesFit_X11 : ∀ w ∈ u_ws RX11 TX11 58, w ∈ wsX11_doesFit := by decide +kernel
set_option maxHeartbeats 4000000 in
set_option maxRecDepth 100000 in
theorem br_doesFit_36 {l : Launch} {dC : Nat → ClassId} {dI : Nat → Nat → Nat} {cB cI cJ cZ cS : ClassId} {h : Nat} {a : Nat → Nat} {as : List Value} {r : Int32} {s' : RS} {k17 : RS → Int32 → Int32 → Int32 → Int32 → Int32 → Option (Int32 × RS)} (hk17 : ∀ (s : RS) (x1 : Int32) (x2 : Int32) (x3 : Int32) (x4 : Int32) (x5 : Int32), k17 s x1 x2 x3 x4 x5 = some (r, s') → BlkI l yX11_doesFit wsX11_doesFit ({ frames := 2, cells := 0, slots := 0, locals := 44 }) cX11_doesFit 6 (some .boolean) (dC, dI) (tysA cB cI cJ cZ cS) as 17 (mwS cB cI cJ cZ h a s) [(0, .ref h), (1, .int x1), (2, .int x2), (3, .int x3), (4, .int x4), (5, .int x5)] [] (fun x u => x = r ∧ u = (mwS cB cI cJ cZ h a s'))) (s : RS) (x1 : Int32) (x2 : Int32) (x3 : Int32) (x4 : Int32) (x5 : Int32) (hB : r_doesFit_36 k17 s x1 x2 x3 x4 x5 = some (r, s')) : BlkI l yX11_doesFit wsX11_doesFit ({ frames := 2, cells := 0, slots := 0, locals := 44 }) cX11_doesFit 6 (some .boolean) (dC, dI) (tysA cB cI cJ cZ cS) as 36 (mwS cB cI cJ cZ h a s) [(0, .ref h), (1, .int x1), (2, .int x2), (3, .int x3), (4, .int x4), (5, .int x5)] [] (fun x u => x = r ∧ u = (mwS cB cI cJ cZ h a s')) := by
  intro p e s0 m below meth c A E H locs ls hP hD hS hl
  obtain ⟨C, hr, hlocks, hA, hK, hN⟩ := id E
  obtain ⟨hx, hb, hml, hown, hts⟩ := id C
  unfold r_doesFit_36 at hB
  refine lv_iinc (v := (x5 + 1)) (lv' := [(5, .int (x5 + 1)), (0, .ref h), (1, .int x1), (2, .int x2), (3, .int x3), (4, .int x4)]) hx hb dX11_doesFit_36 hl (k := 5) rfl (rfl) (by decide) rfl (fun ls hl => ?_)
  refine lv_goto (tgt := 17) hx hb dX11_doesFit_39 (by decide) ?_
  exact hk17 _ _ _ _ _ _ hB p e s0 m below meth c A E H locs ls hP hD hS (lv_sub hl [1, 2, 3, 4, 5, 0] rfl)
set_option maxHeartbeats 4000000 in
set_option maxRecDepth 100000 in
theorem br_doesFit_17 {l : Launch} {dC : Nat → ClassId} {dI : Nat → Nat → Nat} {cB cI cJ cZ cS : ClassId} {h : Nat} {a : Nat → Nat} {as : List Value} {r : Int32} {s' : RS} {k17 : RS → Int32 → Int32 → Int32 → Int32 → Int32 → Option (Int32 × RS)} (hk17 : ∀ (s : RS) (x1 : Int32) (x2 : Int32) (x3 : Int32) (x4 : Int32) (x5 : Int32), k17 s x1 x2 x3 x4 x5 = some (r, s') → BlkI l yX11_doesFit wsX11_doesFit ({ frames := 2, cells := 0, slots := 0, locals := 44 }) cX11_doesFit 6 (some .boolean) (dC, dI) (tysA cB cI cJ cZ cS) as 17 (mwS cB cI cJ cZ h a s) [(0, .ref h), (1, .int x1), (2, .int x2), (3, .int x3), (4, .int x4), (5, .int x5)] [] (fun x u => x = r ∧ u = (mwS cB cI cJ cZ h a s'))) (s : RS) (x1 : Int32) (x2 : Int32) (x3 : Int32) (x4 : Int32) (x5 : Int32) (hB : r_doesFit_17 k17 s x1 x2 x3 x4 x5 = some (r, s')) : BlkI l yX11_doesFit wsX11_doesFit ({ frames := 2, cells := 0, slots := 0, locals := 44 }) cX11_doesFit 6 (some .boolean) (dC, dI) (tysA cB cI cJ cZ cS) as 17 (mwS cB cI cJ cZ h a s) [(0, .ref h), (1, .int x1), (2, .int x2), (3, .int x3), (4, .int x4), (5, .int x5)] [] (fun x u => x = r ∧ u = (mwS cB cI cJ cZ h a s')) := by
  intro p e s0 m below meth c A E H locs ls hP hD hS hl
  obtain ⟨C, hr, hlocks, hA, hK, hN⟩ := id E
  obtain ⟨hx, hb, hml, hown, hts⟩ := id C
  unfold r_doesFit_17 at hB
  refine lv_iload hx hb dX11_doesFit_17 (lv_at hl 5 rfl) ?_
  refine lv_iload_n hx hb dX11_doesFit_19 rfl (lv_at hl 2 rfl) ?_
  refine lv_icmp_ge (tgt := 42) hx hb dX11_doesFit_20 (by decide) (fun c1 => ?_) (fun c1 => ?_)
  · have hB := if_p hB c1
    refine lv_iload hx hb dX11_doesFit_42 (lv_at hl 4 rfl) ?_
    refine lv_iload_n hx hb dX11_doesFit_44 rfl (lv_at hl 3 rfl) ?_
    refine lv_icmp_gt (tgt := 52) hx hb dX11_doesFit_45 (by decide) (fun c2 => ?_) (fun c2 => ?_)
    · have hB := if_p hB c2
      refine lv_iconst (v := 0) hx hb dX11_doesFit_52 (by decide) ?_
      exact q_zret C hr hlocks (Or.inl rfl) hK hP hD hS (Nat.le_of_ble_eq_true rfl) (Nat.le_of_ble_eq_true rfl) dX11_doesFit_53 (by cases hB; exact ⟨rfl, rfl⟩)
    · have hB := if_n hB c2
      refine lv_iconst (v := 1) hx hb dX11_doesFit_48 (by decide) ?_
      refine lv_goto (tgt := 53) hx hb dX11_doesFit_49 (by decide) ?_
      exact q_zret C hr hlocks (Or.inr rfl) hK hP hD hS (Nat.le_of_ble_eq_true rfl) (Nat.le_of_ble_eq_true rfl) dX11_doesFit_53 (by cases hB; exact ⟨rfl, rfl⟩)
  · have hB := if_n hB c1
    refine lv_aload_n hx hb dX11_doesFit_23 rfl (lv_at hl 0 rfl) ?_
    refine lv_iload_n hx hb dX11_doesFit_24 rfl (lv_at hl 1 rfl) ?_
    refine lv_iload hx hb dX11_doesFit_25 (lv_at hl 5 rfl) ?_
    obtain ⟨q_, s3, hc, hB⟩ := bindI_inv hB
    refine q_goiF (va_runV (As := [.int x1, .int x5]) (rest := []) C (cr_isSo hc _) (cwV 2 hts gX11_doesFit_X11_isSo rfl rfl rfl (by decide +kernel) ⟨Nat.le_of_ble_eq_true rfl, Nat.le_of_ble_eq_true rfl⟩) (q_preV hK hP (ci := 11) (q0 := 0) rfl rfl rfl (q_preF hN hK hP hD)) rfl rfl hl.1 rfl (lv_room (Nat.le_of_ble_eq_true rfl)) dX11_doesFit_27 ⟨Nat.le_of_ble_eq_true rfl, Nat.le_of_ble_eq_true rfl⟩) hD hS hA (fun r4 w1 H locs hw hP hD hS => ?_)
    obtain ⟨hq_, hw⟩ := hw; subst hw; subst hq_
    refine lv_if_ne (tgt := 36) hx hb dX11_doesFit_30 (by decide) (fun c5 => ?_) (fun c5 => ?_)
    · have hB := if_n hB c5
      exact br_doesFit_36 (hk17) _ _ _ _ _ _ hB p e s0 m below meth c A E H locs ls hP hD hS (lv_sub hl [0, 1, 2, 3, 4, 5] rfl)
    · have hB := if_p hB c5
      refine lv_iinc (v := (x4 + 1)) (lv' := [(4, .int (x4 + 1)), (0, .ref h), (1, .int x1), (2, .int x2), (3, .int x3), (5, .int x5)]) hx hb dX11_doesFit_33 hl (k := 4) rfl (rfl) (by decide) rfl (fun ls hl => ?_)
      exact br_doesFit_36 (hk17) _ _ _ _ _ _ hB p e s0 m below meth c A E H locs ls hP hD hS (lv_sub hl [1, 2, 3, 4, 0, 5] rfl)
theorem br_doesFit_17L {l : Launch} {dC : Nat → ClassId} {dI : Nat → Nat → Nat} {cB cI cJ cZ cS : ClassId} {h : Nat} {a : Nat → Nat} {as : List Value} {r : Int32} {s' : RS} : ∀ (n : Nat) (s : RS) (x1 : Int32) (x2 : Int32) (x3 : Int32) (x4 : Int32) (x5 : Int32), r_doesFit_17L n s x1 x2 x3 x4 x5 = some (r, s') → BlkI l yX11_doesFit wsX11_doesFit ({ frames := 2, cells := 0, slots := 0, locals := 44 }) cX11_doesFit 6 (some .boolean) (dC, dI) (tysA cB cI cJ cZ cS) as 17 (mwS cB cI cJ cZ h a s) [(0, .ref h), (1, .int x1), (2, .int x2), (3, .int x3), (4, .int x4), (5, .int x5)] [] (fun x u => x = r ∧ u = (mwS cB cI cJ cZ h a s')) := by
  intro n
  induction n with
  | zero => intro s x1 x2 x3 x4 x5 hB; exact none_ne hB
  | succ n ih => intro s x1 x2 x3 x4 x5 hB; exact br_doesFit_17 ih _ _ _ _ _ _ hB
set_option maxHeartbeats 4000000 in
set_option maxRecDepth 100000 in
theorem br_doesFit {l : Launch} {dC : Nat → ClassId} {dI : Nat → Nat → Nat} {cB cI cJ cZ cS : ClassId} {h : Nat} {a : Nat → Nat} {as : List Value} {r : Int32} {s' : RS} (s : RS) (x1 : Int32) (x2 : Int32) (x3 : Int32) (hB : r_doesFit s x1 x2 x3 = some (r, s')) : BlkI l yX11_doesFit wsX11_doesFit ({ frames := 2, cells := 0, slots := 0, locals := 44 }) cX11_doesFit 6 (some .boolean) (dC, dI) (tysA cB cI cJ cZ cS) as 0 (mwS cB cI cJ cZ h a s) [(0, .ref h), (1, .int x1), (2, .int x2), (3, .int x3)] [] (fun x u => x = r ∧ u = (mwS cB cI cJ cZ h a s')) := by
  intro p e s0 m below meth c A E H locs ls hP hD hS hl
  obtain ⟨C, hr, hlocks, hA, hK, hN⟩ := id E
  obtain ⟨hx, hb, hml, hown, hts⟩ := id C
  unfold r_doesFit at hB
  refine lv_aload_n hx hb dX11_doesFit_0 rfl (lv_at hl 0 rfl) ?_
  refine q_get (v := .ref (a 50)) C inX11_doesFit_X11 hK hP 0 rfl rfl 50 (by decide) rfl LX11_doesFit_113 rfl dX11_doesFit_1 ?_
  refine lv_iload_n hx hb dX11_doesFit_4 rfl (lv_at hl 1 rfl) ?_
  obtain ⟨g1, hB⟩ := guard_inv hB
  refine q_iald (x := (s.f 50 (Int32.toNatClampNeg x1))) C hK hP 32 1 rfl rfl (vpb_in g1) dX11_doesFit_5 rfl ?_
  refine lv_if_ne (tgt := 11) hx hb dX11_doesFit_6 (by decide) (fun c2 => ?_) (fun c2 => ?_)
  · have hB := if_n hB c2
    refine lv_iconst (v := 0) hx hb dX11_doesFit_11 (by decide) ?_
    refine lv_istore (lv' := [(4, .int 0), (0, .ref h), (1, .int x1), (2, .int x2), (3, .int x3)]) hx hb dX11_doesFit_12 hl (by decide) rfl (fun ls hl => ?_)
    refine lv_iconst (v := 0) hx hb dX11_doesFit_14 (by decide) ?_
    refine lv_istore (lv' := [(5, .int 0), (4, .int 0), (0, .ref h), (1, .int x1), (2, .int x2), (3, .int x3)]) hx hb dX11_doesFit_15 hl (by decide) rfl (fun ls hl => ?_)
    exact br_doesFit_17L fu _ _ _ _ _ _ hB p e s0 m below meth c A E H locs ls hP hD hS (lv_sub hl [2, 3, 4, 5, 1, 0] rfl)
  · have hB := if_p hB c2
    refine lv_iconst (v := 0) hx hb dX11_doesFit_9 (by decide) ?_
    exact q_zret C hr hlocks (Or.inl rfl) hK hP hD hS (Nat.le_of_ble_eq_true rfl) (Nat.le_of_ble_eq_true rfl) dX11_doesFit_10 (by cases hB; exact ⟨rfl, rfl⟩)
theorem cr_doesFit {l : Launch} {dC : Nat → ClassId} {dI : Nat → Nat → Nat} {cB cI cJ cZ cS : ClassId} {h : Nat} {a : Nat → Nat} {r : Int32} {s' : RS} {s : RS} {x1 : Int32} {x2 : Int32} {x3 : Int32} (hB : r_doesFit s x1 x2 x3 = some (r, s')) : CI l yX11_doesFit wsX11_doesFit ({ frames := 2, cells := 0, slots := 0, locals := 44 }) (dC, dI) (tysA cB cI cJ cZ cS) (mwS cB cI cJ cZ h a s) [.ref h, .int x1, .int x2, .int x3] (fun x u => x = r ∧ u = (mwS cB cI cJ cZ h a s')) :=
  CI_of (cc := cX11_doesFit) (maxL := 6) (ret := (some .boolean)) (by decide) rfl (Nat.le_of_ble_eq_true rfl) (br_doesFit _ _ _ _ hB)
