section
theorem ggX8_waveToAsk_X8_sortByLies : GoodIn wsX8_waveToAsk wsX8_sortByLies := gi_sub (fun w h => List.mem_cons_of_mem _ (List.mem_append_left _ (List.mem_append_left _ (List.mem_append_right _ (List.mem_append_left _ h))))) gd_wsX8_sortByLies
set_option maxRecDepth 20000 in
theorem gX8_waveToAsk_X8_sortByLies : GoodIn wsX8_waveToAsk (wsV RX8 72 RX8 yX8_sortByLies wsX8_sortByLies) := goodIn_app (goodIn_r _ [6, 7, 8, 9] (by decide +kernel) (by decide +kernel)) ggX8_waveToAsk_X8_sortByLies
theorem ggX8_waveToAsk_X8_fittingWith : GoodIn wsX8_waveToAsk wsX8_fittingWith := gi_sub (fun w h => List.mem_cons_of_mem _ (List.mem_append_left _ (List.mem_append_left _ (List.mem_append_right _ (List.mem_append_right _ h))))) gd_wsX8_fittingWith
set_option maxRecDepth 20000 in
theorem gX8_waveToAsk_X8_fittingWith : GoodIn wsX8_waveToAsk (wsV RX8 80 RX8 yX8_fittingWith wsX8_fittingWith) := goodIn_app (goodIn_r _ [10, 11, 12, 9] (by decide +kernel) (by decide +kernel)) ggX8_waveToAsk_X8_fittingWith
theorem dX8_waveToAsk_0 : decode cX8_waveToAsk 0 = .ok (.bipush (-2), 2) := dcb_16 (n := 254) (by decide +kernel)
theorem dX8_waveToAsk_2 : decode cX8_waveToAsk 2 = .ok (.istore_n 2, 1) := dc1_61 (by decide +kernel)
theorem dX8_waveToAsk_3 : decode cX8_waveToAsk 3 = .ok (.iconst 0, 1) := dc1_3 (by decide +kernel)
theorem dX8_waveToAsk_4 : decode cX8_waveToAsk 4 = .ok (.istore_n 3, 1) := dc1_62 (by decide +kernel)
theorem dX8_waveToAsk_5 : decode cX8_waveToAsk 5 = .ok (.iconst 0, 1) := dc1_3 (by decide +kernel)
theorem dX8_waveToAsk_6 : decode cX8_waveToAsk 6 = .ok (.istore 4, 2) := dcu_54 (by decide +kernel)
theorem dX8_waveToAsk_8 : decode cX8_waveToAsk 8 = .ok (.iload 4, 2) := dcu_21 (by decide +kernel)
theorem dX8_waveToAsk_10 : decode cX8_waveToAsk 10 = .ok (.aload_n 0, 1) := dc1_42 (by decide +kernel)
theorem dX8_waveToAsk_11 : decode cX8_waveToAsk 11 = .ok (.getfield 27, 3) := dcw_180 (by decide +kernel)
theorem dX8_waveToAsk_14 : decode cX8_waveToAsk 14 = .ok (.getfield 39, 3) := dcw_180 (by decide +kernel)
theorem dX8_waveToAsk_17 : decode cX8_waveToAsk 17 = .ok (.if_icmp .ge 74, 3) := dcs_162 (n := 74) (by decide +kernel)
theorem dX8_waveToAsk_20 : decode cX8_waveToAsk 20 = .ok (.aload_n 0, 1) := dc1_42 (by decide +kernel)
theorem dX8_waveToAsk_21 : decode cX8_waveToAsk 21 = .ok (.iload 4, 2) := dcu_21 (by decide +kernel)
theorem dX8_waveToAsk_23 : decode cX8_waveToAsk 23 = .ok (.iconst 0, 1) := dc1_3 (by decide +kernel)
theorem dX8_waveToAsk_24 : decode cX8_waveToAsk 24 = .ok (.invokevirtual 72, 3) := dcw_182 (by decide +kernel)
theorem dX8_waveToAsk_27 : decode cX8_waveToAsk 27 = .ok (.iconst 0, 1) := dc1_3 (by decide +kernel)
theorem dX8_waveToAsk_28 : decode cX8_waveToAsk 28 = .ok (.istore 5, 2) := dcu_54 (by decide +kernel)
theorem dX8_waveToAsk_30 : decode cX8_waveToAsk 30 = .ok (.iconst 0, 1) := dc1_3 (by decide +kernel)
theorem dX8_waveToAsk_31 : decode cX8_waveToAsk 31 = .ok (.istore 6, 2) := dcu_54 (by decide +kernel)
theorem dX8_waveToAsk_33 : decode cX8_waveToAsk 33 = .ok (.iload 6, 2) := dcu_21 (by decide +kernel)
theorem dX8_waveToAsk_35 : decode cX8_waveToAsk 35 = .ok (.bipush 6, 2) := dcb_16 (n := 6) (by decide +kernel)
theorem dX8_waveToAsk_37 : decode cX8_waveToAsk 37 = .ok (.if_icmp .ge 25, 3) := dcs_162 (n := 25) (by decide +kernel)
theorem dX8_waveToAsk_40 : decode cX8_waveToAsk 40 = .ok (.iload 5, 2) := dcu_21 (by decide +kernel)
theorem dX8_waveToAsk_42 : decode cX8_waveToAsk 42 = .ok (.aload_n 0, 1) := dc1_42 (by decide +kernel)
theorem dX8_waveToAsk_43 : decode cX8_waveToAsk 43 = .ok (.iload 4, 2) := dcu_21 (by decide +kernel)
theorem dX8_waveToAsk_45 : decode cX8_waveToAsk 45 = .ok (.iload 6, 2) := dcu_21 (by decide +kernel)
theorem dX8_waveToAsk_47 : decode cX8_waveToAsk 47 = .ok (.iload_n 1, 1) := dc1_27 (by decide +kernel)
theorem dX8_waveToAsk_48 : decode cX8_waveToAsk 48 = .ok (.invokevirtual 80, 3) := dcw_182 (by decide +kernel)
theorem dX8_waveToAsk_51 : decode cX8_waveToAsk 51 = .ok (.invokestatic 83, 3) := dcw_184 (by decide +kernel)
theorem dX8_waveToAsk_54 : decode cX8_waveToAsk 54 = .ok (.istore 5, 2) := dcu_54 (by decide +kernel)
theorem dX8_waveToAsk_56 : decode cX8_waveToAsk 56 = .ok (.iinc 6 1, 3) := dc_iinc (m := 1) (by decide +kernel)
theorem dX8_waveToAsk_59 : decode cX8_waveToAsk 59 = .ok (.goto (-26), 3) := dcs_167 (n := 65510) (by decide +kernel)
theorem dX8_waveToAsk_62 : decode cX8_waveToAsk 62 = .ok (.iload 5, 2) := dcu_21 (by decide +kernel)
theorem dX8_waveToAsk_64 : decode cX8_waveToAsk 64 = .ok (.ifCond .le 21, 3) := dcs_158 (n := 21) (by decide +kernel)
theorem dX8_waveToAsk_67 : decode cX8_waveToAsk 67 = .ok (.iload_n 2, 1) := dc1_28 (by decide +kernel)
theorem dX8_waveToAsk_68 : decode cX8_waveToAsk 68 = .ok (.bipush (-2), 2) := dcb_16 (n := 254) (by decide +kernel)
theorem dX8_waveToAsk_70 : decode cX8_waveToAsk 70 = .ok (.if_icmp .eq 9, 3) := dcs_159 (n := 9) (by decide +kernel)
theorem dX8_waveToAsk_73 : decode cX8_waveToAsk 73 = .ok (.iload 5, 2) := dcu_21 (by decide +kernel)
theorem dX8_waveToAsk_75 : decode cX8_waveToAsk 75 = .ok (.iload_n 3, 1) := dc1_29 (by decide +kernel)
theorem dX8_waveToAsk_76 : decode cX8_waveToAsk 76 = .ok (.if_icmp .ge 9, 3) := dcs_162 (n := 9) (by decide +kernel)
theorem dX8_waveToAsk_79 : decode cX8_waveToAsk 79 = .ok (.iload 4, 2) := dcu_21 (by decide +kernel)
theorem dX8_waveToAsk_81 : decode cX8_waveToAsk 81 = .ok (.istore_n 2, 1) := dc1_61 (by decide +kernel)
theorem dX8_waveToAsk_82 : decode cX8_waveToAsk 82 = .ok (.iload 5, 2) := dcu_21 (by decide +kernel)
theorem dX8_waveToAsk_84 : decode cX8_waveToAsk 84 = .ok (.istore_n 3, 1) := dc1_62 (by decide +kernel)
theorem dX8_waveToAsk_85 : decode cX8_waveToAsk 85 = .ok (.iinc 4 1, 3) := dc_iinc (m := 1) (by decide +kernel)
theorem dX8_waveToAsk_88 : decode cX8_waveToAsk 88 = .ok (.goto (-80), 3) := dcs_167 (n := 65456) (by decide +kernel)
theorem dX8_waveToAsk_91 : decode cX8_waveToAsk 91 = .ok (.iload_n 2, 1) := dc1_28 (by decide +kernel)
theorem dX8_waveToAsk_92 : decode cX8_waveToAsk 92 = .ok (.ireturn, 1) := dc1_172 (by decide +kernel)
theorem ggX10_odds_X5_hasWave : GoodIn wsX10_odds wsX5_hasWave := gi_sub (fun w h => List.mem_cons_of_mem _ (List.mem_append_left _ (List.mem_append_left _ (List.mem_append_right _ (List.mem_append_left _ h))))) gd_wsX5_hasWave
set_option maxRecDepth 20000 in
theorem gX10_odds_X5_hasWave_n108 : GoodIn wsX10_odds (wsX5_hasWave) := ggX10_odds_X5_hasWave
theorem ggX10_odds_X10_isThing : GoodIn wsX10_odds wsX10_isThing := gi_sub (fun w h => List.mem_cons_of_mem _ (List.mem_append_left _ (List.mem_append_left _ (List.mem_append_right _ (List.mem_append_right _ (List.mem_append_left _ h)))))) gd_wsX10_isThing
set_option maxRecDepth 20000 in
theorem gX10_odds_X10_isThing : GoodIn wsX10_odds (va_wsS RX10 131 yX10_isThing wsX10_isThing) := goodIn_app (goodIn_of _ (by decide +kernel)) ggX10_odds_X10_isThing
theorem ggX10_odds_X5_oddsAt : GoodIn wsX10_odds wsX5_oddsAt := gi_sub (fun w h => List.mem_cons_of_mem _ (List.mem_append_left _ (List.mem_append_left _ (List.mem_append_right _ (List.mem_append_right _ (List.mem_append_right _ h)))))) gd_wsX5_oddsAt
set_option maxRecDepth 20000 in
theorem gX10_odds_X5_oddsAt_n134 : GoodIn wsX10_odds (wsX5_oddsAt) := ggX10_odds_X5_oddsAt
theorem dX10_odds_0 : decode cX10_odds 0 = .ok (.aload_n 0, 1) := dc1_42 (by decide +kernel)
theorem dX10_odds_1 : decode cX10_odds 1 = .ok (.getfield 19, 3) := dcw_180 (by decide +kernel)
theorem dX10_odds_4 : decode cX10_odds 4 = .ok (.iload_n 1, 1) := dc1_27 (by decide +kernel)
theorem dX10_odds_5 : decode cX10_odds 5 = .ok (.invokevirtual 108, 3) := dcw_182 (by decide +kernel)
theorem dX10_odds_8 : decode cX10_odds 8 = .ok (.ifCond .eq 22, 3) := dcs_153 (n := 22) (by decide +kernel)
theorem dX10_odds_11 : decode cX10_odds 11 = .ok (.iload_n 2, 1) := dc1_28 (by decide +kernel)
theorem dX10_odds_12 : decode cX10_odds 12 = .ok (.invokestatic 131, 3) := dcw_184 (by decide +kernel)
theorem dX10_odds_15 : decode cX10_odds 15 = .ok (.ifCond .eq 15, 3) := dcs_153 (n := 15) (by decide +kernel)
theorem dX10_odds_18 : decode cX10_odds 18 = .ok (.aload_n 0, 1) := dc1_42 (by decide +kernel)
theorem dX10_odds_19 : decode cX10_odds 19 = .ok (.getfield 19, 3) := dcw_180 (by decide +kernel)
theorem dX10_odds_22 : decode cX10_odds 22 = .ok (.iload_n 1, 1) := dc1_27 (by decide +kernel)
theorem dX10_odds_23 : decode cX10_odds 23 = .ok (.iload_n 2, 1) := dc1_28 (by decide +kernel)
theorem dX10_odds_24 : decode cX10_odds 24 = .ok (.invokevirtual 134, 3) := dcw_182 (by decide +kernel)
theorem dX10_odds_27 : decode cX10_odds 27 = .ok (.goto 4, 3) := dcs_167 (n := 4) (by decide +kernel)
theorem dX10_odds_30 : decode cX10_odds 30 = .ok (.iconst (-1), 1) := dc1_2 (by decide +kernel)
theorem dX10_odds_31 : decode cX10_odds 31 = .ok (.ireturn, 1) := dc1_172 (by decide +kernel)
theorem ggX10_cases_X2_caseCount : GoodIn wsX10_cases wsX2_caseCount := gi_sub (fun w h => List.mem_cons_of_mem _ (List.mem_append_left _ (List.mem_append_left _ (List.mem_append_left _ (List.mem_append_left _ (List.mem_append_left _ (List.mem_append_right _ h))))))) gd_wsX2_caseCount
set_option maxRecDepth 20000 in
theorem gX10_cases_X2_caseCount_n196 : GoodIn wsX10_cases (wsX2_caseCount) := ggX10_cases_X2_caseCount
theorem dX10_cases_0 : decode cX10_cases 0 = .ok (.aload_n 0, 1) := dc1_42 (by decide +kernel)
theorem dX10_cases_1 : decode cX10_cases 1 = .ok (.getfield 63, 3) := dcw_180 (by decide +kernel)
theorem dX10_cases_4 : decode cX10_cases 4 = .ok (.aload_n 0, 1) := dc1_42 (by decide +kernel)
theorem dX10_cases_5 : decode cX10_cases 5 = .ok (.getfield 35, 3) := dcw_180 (by decide +kernel)
theorem dX10_cases_8 : decode cX10_cases 8 = .ok (.invokevirtual 196, 3) := dcw_182 (by decide +kernel)
theorem dX10_cases_11 : decode cX10_cases 11 = .ok (.ireturn, 1) := dc1_172 (by decide +kernel)
theorem ggX10_chance_X5_hasGuess : GoodIn wsX10_chance wsX5_hasGuess := gi_sub (fun w h => List.mem_cons_of_mem _ (List.mem_append_left _ (List.mem_append_left _ (List.mem_append_left _ (List.mem_append_left _ (List.mem_append_left _ (List.mem_append_right _ (List.mem_append_left _ h)))))))) gd_wsX5_hasGuess
set_option maxRecDepth 20000 in
theorem gX10_chance_X5_hasGuess_n170 : GoodIn wsX10_chance (wsX5_hasGuess) := ggX10_chance_X5_hasGuess
theorem ggX10_chance_X2_oddsOf : GoodIn wsX10_chance wsX2_oddsOf := gi_sub (fun w h => List.mem_cons_of_mem _ (List.mem_append_left _ (List.mem_append_left _ (List.mem_append_left _ (List.mem_append_left _ (List.mem_append_left _ (List.mem_append_right _ (List.mem_append_right _ h)))))))) gd_wsX2_oddsOf
set_option maxRecDepth 20000 in
theorem gX10_chance_X2_oddsOf_n200 : GoodIn wsX10_chance (wsX2_oddsOf) := ggX10_chance_X2_oddsOf
theorem dX10_chance_0 : decode cX10_chance 0 = .ok (.aload_n 0, 1) := dc1_42 (by decide +kernel)
theorem dX10_chance_1 : decode cX10_chance 1 = .ok (.getfield 19, 3) := dcw_180 (by decide +kernel)
theorem dX10_chance_4 : decode cX10_chance 4 = .ok (.iload_n 1, 1) := dc1_27 (by decide +kernel)
theorem dX10_chance_5 : decode cX10_chance 5 = .ok (.invokevirtual 170, 3) := dcw_182 (by decide +kernel)
theorem dX10_chance_8 : decode cX10_chance 8 = .ok (.ifCond .eq 18, 3) := dcs_153 (n := 18) (by decide +kernel)
theorem dX10_chance_11 : decode cX10_chance 11 = .ok (.aload_n 0, 1) := dc1_42 (by decide +kernel)
theorem dX10_chance_12 : decode cX10_chance 12 = .ok (.getfield 63, 3) := dcw_180 (by decide +kernel)
theorem dX10_chance_15 : decode cX10_chance 15 = .ok (.aload_n 0, 1) := dc1_42 (by decide +kernel)
theorem dX10_chance_16 : decode cX10_chance 16 = .ok (.getfield 35, 3) := dcw_180 (by decide +kernel)
theorem dX10_chance_19 : decode cX10_chance 19 = .ok (.iload_n 1, 1) := dc1_27 (by decide +kernel)
theorem dX10_chance_20 : decode cX10_chance 20 = .ok (.invokevirtual 200, 3) := dcw_182 (by decide +kernel)
theorem dX10_chance_23 : decode cX10_chance 23 = .ok (.goto 4, 3) := dcs_167 (n := 4) (by decide +kernel)
theorem dX10_chance_26 : decode cX10_chance 26 = .ok (.iconst (-1), 1) := dc1_2 (by decide +kernel)
theorem dX10_chance_27 : decode cX10_chance 27 = .ok (.ireturn, 1) := dc1_172 (by decide +kernel)
theorem ggX10_enough_X2_caseCount : GoodIn wsX10_enough wsX2_caseCount := gi_sub (fun w h => List.mem_cons_of_mem _ (List.mem_append_left _ (List.mem_append_left _ (List.mem_append_left _ (List.mem_append_left _ (List.mem_append_left _ (List.mem_append_right _ (List.mem_append_left _ h)))))))) gd_wsX2_caseCount
set_option maxRecDepth 20000 in
theorem gX10_enough_X2_caseCount_n196 : GoodIn wsX10_enough (wsX2_caseCount) := ggX10_enough_X2_caseCount
theorem ggX10_enough_X2_goesAtMost : GoodIn wsX10_enough wsX2_goesAtMost := gi_sub (fun w h => List.mem_cons_of_mem _ (List.mem_append_left _ (List.mem_append_left _ (List.mem_append_left _ (List.mem_append_left _ (List.mem_append_left _ (List.mem_append_right _ (List.mem_append_right _ h)))))))) gd_wsX2_goesAtMost
set_option maxRecDepth 20000 in
theorem gX10_enough_X2_goesAtMost_n212 : GoodIn wsX10_enough (wsX2_goesAtMost) := ggX10_enough_X2_goesAtMost
theorem dX10_enough_0 : decode cX10_enough 0 = .ok (.aload_n 0, 1) := dc1_42 (by decide +kernel)
theorem dX10_enough_1 : decode cX10_enough 1 = .ok (.getfield 63, 3) := dcw_180 (by decide +kernel)
theorem dX10_enough_4 : decode cX10_enough 4 = .ok (.aload_n 0, 1) := dc1_42 (by decide +kernel)
theorem dX10_enough_5 : decode cX10_enough 5 = .ok (.getfield 35, 3) := dcw_180 (by decide +kernel)
theorem dX10_enough_8 : decode cX10_enough 8 = .ok (.invokevirtual 196, 3) := dcw_182 (by decide +kernel)
theorem dX10_enough_11 : decode cX10_enough 11 = .ok (.ifCond .ne 8, 3) := dcs_154 (n := 8) (by decide +kernel)
theorem dX10_enough_14 : decode cX10_enough 14 = .ok (.bipush (-2), 2) := dcb_16 (n := 254) (by decide +kernel)
theorem dX10_enough_16 : decode cX10_enough 16 = .ok (.goto 14, 3) := dcs_167 (n := 14) (by decide +kernel)
theorem dX10_enough_19 : decode cX10_enough 19 = .ok (.aload_n 0, 1) := dc1_42 (by decide +kernel)
theorem dX10_enough_20 : decode cX10_enough 20 = .ok (.getfield 63, 3) := dcw_180 (by decide +kernel)
theorem dX10_enough_23 : decode cX10_enough 23 = .ok (.aload_n 0, 1) := dc1_42 (by decide +kernel)
theorem dX10_enough_24 : decode cX10_enough 24 = .ok (.getfield 35, 3) := dcw_180 (by decide +kernel)
theorem dX10_enough_27 : decode cX10_enough 27 = .ok (.invokevirtual 212, 3) := dcw_182 (by decide +kernel)
theorem dX10_enough_30 : decode cX10_enough 30 = .ok (.ireturn, 1) := dc1_172 (by decide +kernel)
theorem ggX10_left_X5_hasGuess : GoodIn wsX10_left wsX5_hasGuess := gi_sub (fun w h => List.mem_cons_of_mem _ (List.mem_append_left _ (List.mem_append_left _ (List.mem_append_left _ (List.mem_append_left _ (List.mem_append_left _ (List.mem_append_right _ (List.mem_append_left _ h)))))))) gd_wsX5_hasGuess
set_option maxRecDepth 20000 in
theorem gX10_left_X5_hasGuess_n170 : GoodIn wsX10_left (wsX5_hasGuess) := ggX10_left_X5_hasGuess
theorem ggX10_left_X2_caseCount : GoodIn wsX10_left wsX2_caseCount := gi_sub (fun w h => List.mem_cons_of_mem _ (List.mem_append_left _ (List.mem_append_left _ (List.mem_append_left _ (List.mem_append_left _ (List.mem_append_left _ (List.mem_append_right _ (List.mem_append_right _ (List.mem_append_left _ h))))))))) gd_wsX2_caseCount
set_option maxRecDepth 20000 in
theorem gX10_left_X2_caseCount_n196 : GoodIn wsX10_left (wsX2_caseCount) := ggX10_left_X2_caseCount
theorem ggX10_left_X2_leftBehind : GoodIn wsX10_left wsX2_leftBehind := gi_sub (fun w h => List.mem_cons_of_mem _ (List.mem_append_left _ (List.mem_append_left _ (List.mem_append_left _ (List.mem_append_left _ (List.mem_append_left _ (List.mem_append_right _ (List.mem_append_right _ (List.mem_append_right _ h))))))))) gd_wsX2_leftBehind
set_option maxRecDepth 20000 in
theorem gX10_left_X2_leftBehind_n215 : GoodIn wsX10_left (wsX2_leftBehind) := ggX10_left_X2_leftBehind
theorem dX10_left_0 : decode cX10_left 0 = .ok (.aload_n 0, 1) := dc1_42 (by decide +kernel)
theorem dX10_left_1 : decode cX10_left 1 = .ok (.getfield 19, 3) := dcw_180 (by decide +kernel)
theorem dX10_left_4 : decode cX10_left 4 = .ok (.iload_n 1, 1) := dc1_27 (by decide +kernel)
theorem dX10_left_5 : decode cX10_left 5 = .ok (.invokevirtual 170, 3) := dcw_182 (by decide +kernel)
theorem dX10_left_8 : decode cX10_left 8 = .ok (.ifCond .ne 5, 3) := dcs_154 (n := 5) (by decide +kernel)
theorem dX10_left_11 : decode cX10_left 11 = .ok (.iconst (-1), 1) := dc1_2 (by decide +kernel)
theorem dX10_left_12 : decode cX10_left 12 = .ok (.ireturn, 1) := dc1_172 (by decide +kernel)
theorem dX10_left_13 : decode cX10_left 13 = .ok (.aload_n 0, 1) := dc1_42 (by decide +kernel)
theorem dX10_left_14 : decode cX10_left 14 = .ok (.getfield 63, 3) := dcw_180 (by decide +kernel)
theorem dX10_left_17 : decode cX10_left 17 = .ok (.aload_n 0, 1) := dc1_42 (by decide +kernel)
theorem dX10_left_18 : decode cX10_left 18 = .ok (.getfield 35, 3) := dcw_180 (by decide +kernel)
theorem dX10_left_21 : decode cX10_left 21 = .ok (.invokevirtual 196, 3) := dcw_182 (by decide +kernel)
theorem dX10_left_24 : decode cX10_left 24 = .ok (.ifCond .ne 8, 3) := dcs_154 (n := 8) (by decide +kernel)
theorem dX10_left_27 : decode cX10_left 27 = .ok (.bipush (-2), 2) := dcb_16 (n := 254) (by decide +kernel)
theorem dX10_left_29 : decode cX10_left 29 = .ok (.goto 15, 3) := dcs_167 (n := 15) (by decide +kernel)
theorem dX10_left_32 : decode cX10_left 32 = .ok (.aload_n 0, 1) := dc1_42 (by decide +kernel)
theorem dX10_left_33 : decode cX10_left 33 = .ok (.getfield 63, 3) := dcw_180 (by decide +kernel)
theorem dX10_left_36 : decode cX10_left 36 = .ok (.aload_n 0, 1) := dc1_42 (by decide +kernel)
theorem dX10_left_37 : decode cX10_left 37 = .ok (.getfield 35, 3) := dcw_180 (by decide +kernel)
theorem dX10_left_40 : decode cX10_left 40 = .ok (.iload_n 1, 1) := dc1_27 (by decide +kernel)
theorem dX10_left_41 : decode cX10_left 41 = .ok (.invokevirtual 215, 3) := dcw_182 (by decide +kernel)
theorem dX10_left_44 : decode cX10_left 44 = .ok (.ireturn, 1) := dc1_172 (by decide +kernel)
theorem ggX10_wisest_X2_caseCount : GoodIn wsX10_wisest wsX2_caseCount := gi_sub (fun w h => List.mem_cons_of_mem _ (List.mem_append_left _ (List.mem_append_left _ (List.mem_append_left _ (List.mem_append_left _ (List.mem_append_left _ (List.mem_append_right _ (List.mem_append_left _ h)))))))) gd_wsX2_caseCount
set_option maxRecDepth 20000 in
theorem gX10_wisest_X2_caseCount_n196 : GoodIn wsX10_wisest (wsX2_caseCount) := ggX10_wisest_X2_caseCount
theorem ggX10_wisest_X2_wisestGuess : GoodIn wsX10_wisest wsX2_wisestGuess := gi_sub (fun w h => List.mem_cons_of_mem _ (List.mem_append_left _ (List.mem_append_left _ (List.mem_append_left _ (List.mem_append_left _ (List.mem_append_left _ (List.mem_append_right _ (List.mem_append_right _ (List.mem_append_left _ h))))))))) gd_wsX2_wisestGuess
set_option maxRecDepth 20000 in
theorem gX10_wisest_X2_wisestGuess_n218 : GoodIn wsX10_wisest (wsX2_wisestGuess) := ggX10_wisest_X2_wisestGuess
theorem ggX10_wisest_X2_leftBehind : GoodIn wsX10_wisest wsX2_leftBehind := gi_sub (fun w h => List.mem_cons_of_mem _ (List.mem_append_left _ (List.mem_append_left _ (List.mem_append_left _ (List.mem_append_left _ (List.mem_append_left _ (List.mem_append_right _ (List.mem_append_right _ (List.mem_append_right _ h))))))))) gd_wsX2_leftBehind
set_option maxRecDepth 20000 in
theorem gX10_wisest_X2_leftBehind_n215 : GoodIn wsX10_wisest (wsX2_leftBehind) := ggX10_wisest_X2_leftBehind
theorem dX10_wisest_0 : decode cX10_wisest 0 = .ok (.iload_n 1, 1) := dc1_27 (by decide +kernel)
theorem dX10_wisest_1 : decode cX10_wisest 1 = .ok (.ifCond .eq 10, 3) := dcs_153 (n := 10) (by decide +kernel)
theorem dX10_wisest_4 : decode cX10_wisest 4 = .ok (.iload_n 1, 1) := dc1_27 (by decide +kernel)
theorem dX10_wisest_5 : decode cX10_wisest 5 = .ok (.iconst 1, 1) := dc1_4 (by decide +kernel)
theorem dX10_wisest_6 : decode cX10_wisest 6 = .ok (.if_icmp .eq 5, 3) := dcs_159 (n := 5) (by decide +kernel)
theorem dX10_wisest_9 : decode cX10_wisest 9 = .ok (.iconst (-1), 1) := dc1_2 (by decide +kernel)
theorem dX10_wisest_10 : decode cX10_wisest 10 = .ok (.ireturn, 1) := dc1_172 (by decide +kernel)
theorem dX10_wisest_11 : decode cX10_wisest 11 = .ok (.aload_n 0, 1) := dc1_42 (by decide +kernel)
theorem dX10_wisest_12 : decode cX10_wisest 12 = .ok (.getfield 63, 3) := dcw_180 (by decide +kernel)
theorem dX10_wisest_15 : decode cX10_wisest 15 = .ok (.aload_n 0, 1) := dc1_42 (by decide +kernel)
theorem dX10_wisest_16 : decode cX10_wisest 16 = .ok (.getfield 35, 3) := dcw_180 (by decide +kernel)
theorem dX10_wisest_19 : decode cX10_wisest 19 = .ok (.invokevirtual 196, 3) := dcw_182 (by decide +kernel)
theorem dX10_wisest_22 : decode cX10_wisest 22 = .ok (.ifCond .ne 6, 3) := dcs_154 (n := 6) (by decide +kernel)
theorem dX10_wisest_25 : decode cX10_wisest 25 = .ok (.bipush (-2), 2) := dcb_16 (n := 254) (by decide +kernel)
theorem dX10_wisest_27 : decode cX10_wisest 27 = .ok (.ireturn, 1) := dc1_172 (by decide +kernel)
theorem dX10_wisest_28 : decode cX10_wisest 28 = .ok (.aload_n 0, 1) := dc1_42 (by decide +kernel)
theorem dX10_wisest_29 : decode cX10_wisest 29 = .ok (.getfield 63, 3) := dcw_180 (by decide +kernel)
theorem dX10_wisest_32 : decode cX10_wisest 32 = .ok (.aload_n 0, 1) := dc1_42 (by decide +kernel)
theorem dX10_wisest_33 : decode cX10_wisest 33 = .ok (.getfield 35, 3) := dcw_180 (by decide +kernel)
theorem dX10_wisest_36 : decode cX10_wisest 36 = .ok (.invokevirtual 218, 3) := dcw_182 (by decide +kernel)
theorem dX10_wisest_39 : decode cX10_wisest 39 = .ok (.istore_n 2, 1) := dc1_61 (by decide +kernel)
theorem dX10_wisest_40 : decode cX10_wisest 40 = .ok (.iload_n 1, 1) := dc1_27 (by decide +kernel)
theorem dX10_wisest_41 : decode cX10_wisest 41 = .ok (.ifCond .ne 7, 3) := dcs_154 (n := 7) (by decide +kernel)
theorem dX10_wisest_44 : decode cX10_wisest 44 = .ok (.iload_n 2, 1) := dc1_28 (by decide +kernel)
theorem dX10_wisest_45 : decode cX10_wisest 45 = .ok (.goto 15, 3) := dcs_167 (n := 15) (by decide +kernel)
theorem dX10_wisest_48 : decode cX10_wisest 48 = .ok (.aload_n 0, 1) := dc1_42 (by decide +kernel)
theorem dX10_wisest_49 : decode cX10_wisest 49 = .ok (.getfield 63, 3) := dcw_180 (by decide +kernel)
theorem dX10_wisest_52 : decode cX10_wisest 52 = .ok (.aload_n 0, 1) := dc1_42 (by decide +kernel)
theorem dX10_wisest_53 : decode cX10_wisest 53 = .ok (.getfield 35, 3) := dcw_180 (by decide +kernel)
theorem dX10_wisest_56 : decode cX10_wisest 56 = .ok (.iload_n 2, 1) := dc1_28 (by decide +kernel)
theorem dX10_wisest_57 : decode cX10_wisest 57 = .ok (.invokevirtual 215, 3) := dcw_182 (by decide +kernel)
theorem dX10_wisest_60 : decode cX10_wisest 60 = .ok (.ireturn, 1) := dc1_172 (by decide +kernel)
theorem LX8_waveToAsk_27 : Cond.fieldLink RX8 27 "GuessFerry$Tellers" "sound" "LGuessFerry$Sound;" ∈ wsX8_waveToAsk := (List.mem_cons_of_mem _ (List.mem_append_left _ (List.mem_append_left _ (List.mem_append_left _ (List.mem_of_getElem? (i := 0) rfl)))))
theorem LX8_waveToAsk_M83 : Cond.methodLink RX8 83 Lib.Math.max.name ∈ wsX8_waveToAsk := (List.mem_cons_of_mem _ (List.mem_append_left _ (List.mem_append_left _ (List.mem_append_left _ (List.mem_of_getElem? (i := 1) rfl)))))
theorem LX8_waveToAsk_MCmax : Cond.code Lib.Math.max.name Lib.Math.max.code 2 (some .int) ∈ wsX8_waveToAsk := (List.mem_cons_of_mem _ (List.mem_append_left _ (List.mem_append_left _ (List.mem_append_left _ (List.mem_of_getElem? (i := 4) rfl)))))
theorem LX8_waveToAsk_MI : Cond.initialized "java/lang/Math" ∈ wsX8_waveToAsk := (List.mem_cons_of_mem _ (List.mem_append_left _ (List.mem_append_left _ (List.mem_append_left _ (List.mem_of_getElem? (i := 3) rfl)))))
theorem LX8_waveToAsk_MSmax : Cond.static Lib.Math.max.name ∈ wsX8_waveToAsk := (List.mem_cons_of_mem _ (List.mem_append_left _ (List.mem_append_left _ (List.mem_append_left _ (List.mem_of_getElem? (i := 2) rfl)))))
theorem inX8_waveToAsk_X5 : ∀ w ∈ u_ws RX5 TX5 10, w ∈ wsX8_waveToAsk := fun w h => (List.mem_cons_of_mem _ (List.mem_append_right _ h))
theorem inX8_waveToAsk_X8 : ∀ w ∈ u_ws RX8 TX8 8, w ∈ wsX8_waveToAsk := fun w h => (List.mem_cons_of_mem _ (List.mem_append_left _ (List.mem_append_right _ h)))
set_option maxHeartbeats 4000000 in
set_option maxRecDepth 100000 in
theorem bkX8_waveToAsk_85 {l : Launch} {dC : Nat → ClassId} {dI : Nat → Nat → Nat} {cB cI cJ cZ cS : ClassId} {a : Nat → Nat} {as : List Value} {r : Int32} {s' : KS} {k8 : KS → Int32 → Int32 → Int32 → Int32 → Option (Int32 × KS)} (hk8 : ∀ (s : KS) (x1 : Int32) (x2 : Int32) (x3 : Int32) (x4 : Int32), k8 s x1 x2 x3 x4 = some (r, s') → BlkI l yX8_waveToAsk wsX8_waveToAsk ({ frames := 2, cells := 0, slots := 0, locals := 50 }) cX8_waveToAsk 7 (some .int) (dC, dI) (tysA cB cI cJ cZ cS) as 8 (wK cB cI cJ cZ cS a s) [(0, .ref (a 41)), (1, .int x1), (2, .int x2), (3, .int x3), (4, .int x4)] [] (fun x u => x = r ∧ u = (wK cB cI cJ cZ cS a s'))) (s : KS) (x1 : Int32) (x2 : Int32) (x3 : Int32) (x4 : Int32) (hB : kX8_waveToAsk_85 k8 s x1 x2 x3 x4 = some (r, s')) : BlkI l yX8_waveToAsk wsX8_waveToAsk ({ frames := 2, cells := 0, slots := 0, locals := 50 }) cX8_waveToAsk 7 (some .int) (dC, dI) (tysA cB cI cJ cZ cS) as 85 (wK cB cI cJ cZ cS a s) [(0, .ref (a 41)), (1, .int x1), (2, .int x2), (3, .int x3), (4, .int x4)] [] (fun x u => x = r ∧ u = (wK cB cI cJ cZ cS a s')) := by
  intro p e s0 m below meth c A E H locs ls hP hD hS hl
  obtain ⟨C, hr, hlocks, hA, hK, hN⟩ := id E
  obtain ⟨hx, hb, hml, hown, hts⟩ := id C
  unfold kX8_waveToAsk_85 at hB
  refine lv_iinc (v := (x4 + 1)) (lv' := [(4, .int (x4 + 1)), (0, .ref (a 41)), (1, .int x1), (2, .int x2), (3, .int x3)]) hx hb dX8_waveToAsk_85 hl (k := 4) rfl (rfl) (by decide) rfl (fun ls hl => ?_)
  refine lv_goto (tgt := 8) hx hb dX8_waveToAsk_88 (by decide) ?_
  exact hk8 _ _ _ _ _ hB p e s0 m below meth c A E H locs ls hP hD hS (lv_sub hl [1, 2, 3, 4, 0] rfl)
set_option maxHeartbeats 4000000 in
set_option maxRecDepth 100000 in
theorem bkX8_waveToAsk_79 {l : Launch} {dC : Nat → ClassId} {dI : Nat → Nat → Nat} {cB cI cJ cZ cS : ClassId} {a : Nat → Nat} {as : List Value} {r : Int32} {s' : KS} {k8 : KS → Int32 → Int32 → Int32 → Int32 → Option (Int32 × KS)} (hk8 : ∀ (s : KS) (x1 : Int32) (x2 : Int32) (x3 : Int32) (x4 : Int32), k8 s x1 x2 x3 x4 = some (r, s') → BlkI l yX8_waveToAsk wsX8_waveToAsk ({ frames := 2, cells := 0, slots := 0, locals := 50 }) cX8_waveToAsk 7 (some .int) (dC, dI) (tysA cB cI cJ cZ cS) as 8 (wK cB cI cJ cZ cS a s) [(0, .ref (a 41)), (1, .int x1), (2, .int x2), (3, .int x3), (4, .int x4)] [] (fun x u => x = r ∧ u = (wK cB cI cJ cZ cS a s'))) (s : KS) (x1 : Int32) (x4 : Int32) (x5 : Int32) (hB : kX8_waveToAsk_79 k8 s x1 x4 x5 = some (r, s')) : BlkI l yX8_waveToAsk wsX8_waveToAsk ({ frames := 2, cells := 0, slots := 0, locals := 50 }) cX8_waveToAsk 7 (some .int) (dC, dI) (tysA cB cI cJ cZ cS) as 79 (wK cB cI cJ cZ cS a s) [(0, .ref (a 41)), (1, .int x1), (4, .int x4), (5, .int x5)] [] (fun x u => x = r ∧ u = (wK cB cI cJ cZ cS a s')) := by
  intro p e s0 m below meth c A E H locs ls hP hD hS hl
  obtain ⟨C, hr, hlocks, hA, hK, hN⟩ := id E
  obtain ⟨hx, hb, hml, hown, hts⟩ := id C
  unfold kX8_waveToAsk_79 at hB
  refine lv_iload hx hb dX8_waveToAsk_79 (lv_at hl 2 rfl) ?_
  refine lv_istore_n (lv' := [(2, .int x4), (0, .ref (a 41)), (1, .int x1), (4, .int x4), (5, .int x5)]) hx hb dX8_waveToAsk_81 rfl hl (by decide) rfl (fun ls hl => ?_)
  refine lv_iload hx hb dX8_waveToAsk_82 (lv_at hl 4 rfl) ?_
  refine lv_istore_n (lv' := [(3, .int x5), (2, .int x4), (0, .ref (a 41)), (1, .int x1), (4, .int x4), (5, .int x5)]) hx hb dX8_waveToAsk_84 rfl hl (by decide) rfl (fun ls hl => ?_)
  exact bkX8_waveToAsk_85 (hk8) _ _ _ _ _ hB p e s0 m below meth c A E H locs ls hP hD hS (lv_sub hl [2, 3, 1, 0, 4] rfl)
set_option maxHeartbeats 4000000 in
set_option maxRecDepth 100000 in
theorem bkX8_waveToAsk_33 {l : Launch} {dC : Nat → ClassId} {dI : Nat → Nat → Nat} {cB cI cJ cZ cS : ClassId} {a : Nat → Nat} {as : List Value} {r : Int32} {s' : KS} {k8 : KS → Int32 → Int32 → Int32 → Int32 → Option (Int32 × KS)} {k33 : KS → Int32 → Int32 → Int32 → Int32 → Int32 → Int32 → Option (Int32 × KS)} (hk8 : ∀ (s : KS) (x1 : Int32) (x2 : Int32) (x3 : Int32) (x4 : Int32), k8 s x1 x2 x3 x4 = some (r, s') → BlkI l yX8_waveToAsk wsX8_waveToAsk ({ frames := 2, cells := 0, slots := 0, locals := 50 }) cX8_waveToAsk 7 (some .int) (dC, dI) (tysA cB cI cJ cZ cS) as 8 (wK cB cI cJ cZ cS a s) [(0, .ref (a 41)), (1, .int x1), (2, .int x2), (3, .int x3), (4, .int x4)] [] (fun x u => x = r ∧ u = (wK cB cI cJ cZ cS a s'))) (hk33 : ∀ (s : KS) (x1 : Int32) (x2 : Int32) (x3 : Int32) (x4 : Int32) (x5 : Int32) (x6 : Int32), k33 s x1 x2 x3 x4 x5 x6 = some (r, s') → BlkI l yX8_waveToAsk wsX8_waveToAsk ({ frames := 2, cells := 0, slots := 0, locals := 50 }) cX8_waveToAsk 7 (some .int) (dC, dI) (tysA cB cI cJ cZ cS) as 33 (wK cB cI cJ cZ cS a s) [(0, .ref (a 41)), (1, .int x1), (2, .int x2), (3, .int x3), (4, .int x4), (5, .int x5), (6, .int x6)] [] (fun x u => x = r ∧ u = (wK cB cI cJ cZ cS a s'))) (s : KS) (x1 : Int32) (x2 : Int32) (x3 : Int32) (x4 : Int32) (x5 : Int32) (x6 : Int32) (hB : kX8_waveToAsk_33 k8 k33 s x1 x2 x3 x4 x5 x6 = some (r, s')) : BlkI l yX8_waveToAsk wsX8_waveToAsk ({ frames := 2, cells := 0, slots := 0, locals := 50 }) cX8_waveToAsk 7 (some .int) (dC, dI) (tysA cB cI cJ cZ cS) as 33 (wK cB cI cJ cZ cS a s) [(0, .ref (a 41)), (1, .int x1), (2, .int x2), (3, .int x3), (4, .int x4), (5, .int x5), (6, .int x6)] [] (fun x u => x = r ∧ u = (wK cB cI cJ cZ cS a s')) := by
  intro p e s0 m below meth c A E H locs ls hP hD hS hl
  obtain ⟨C, hr, hlocks, hA, hK, hN⟩ := id E
  obtain ⟨hx, hb, hml, hown, hts⟩ := id C
  unfold kX8_waveToAsk_33 at hB
  refine lv_iload hx hb dX8_waveToAsk_33 (lv_at hl 6 rfl) ?_
  refine lv_bipush (v := 6) hx hb dX8_waveToAsk_35 (by decide) ?_
  refine lv_icmp_ge (tgt := 62) hx hb dX8_waveToAsk_37 (by decide) (fun c1 => ?_) (fun c1 => ?_)
  · have hB := if_p hB c1
    refine lv_iload hx hb dX8_waveToAsk_62 (lv_at hl 5 rfl) ?_
    refine lv_if_le (tgt := 85) hx hb dX8_waveToAsk_64 (by decide) (fun c2 => ?_) (fun c2 => ?_)
    · have hB := if_p hB c2
      exact bkX8_waveToAsk_85 (hk8) _ _ _ _ _ hB p e s0 m below meth c A E H locs ls hP hD hS (lv_sub hl [0, 1, 2, 3, 4] rfl)
    · have hB := if_n hB c2
      refine lv_iload_n hx hb dX8_waveToAsk_67 rfl (lv_at hl 2 rfl) ?_
      refine lv_bipush (v := (-2)) hx hb dX8_waveToAsk_68 (by decide) ?_
      refine lv_icmp_eq (tgt := 79) hx hb dX8_waveToAsk_70 (by decide) (fun c3 => ?_) (fun c3 => ?_)
      · have hB := if_p hB c3
        exact bkX8_waveToAsk_79 (hk8) _ _ _ _ hB p e s0 m below meth c A E H locs ls hP hD hS (lv_sub hl [0, 1, 4, 5] rfl)
      · have hB := if_n hB c3
        refine lv_iload hx hb dX8_waveToAsk_73 (lv_at hl 5 rfl) ?_
        refine lv_iload_n hx hb dX8_waveToAsk_75 rfl (lv_at hl 3 rfl) ?_
        refine lv_icmp_ge (tgt := 85) hx hb dX8_waveToAsk_76 (by decide) (fun c4 => ?_) (fun c4 => ?_)
        · have hB := if_p hB c4
          exact bkX8_waveToAsk_85 (hk8) _ _ _ _ _ hB p e s0 m below meth c A E H locs ls hP hD hS (lv_sub hl [0, 1, 2, 3, 4] rfl)
        · have hB := if_n hB c4
          exact bkX8_waveToAsk_79 (hk8) _ _ _ _ hB p e s0 m below meth c A E H locs ls hP hD hS (lv_sub hl [0, 1, 4, 5] rfl)
  · have hB := if_n hB c1
    refine lv_iload hx hb dX8_waveToAsk_40 (lv_at hl 5 rfl) ?_
    refine lv_aload_n hx hb dX8_waveToAsk_42 rfl (lv_at hl 0 rfl) ?_
    refine lv_iload hx hb dX8_waveToAsk_43 (lv_at hl 4 rfl) ?_
    refine lv_iload hx hb dX8_waveToAsk_45 (lv_at hl 6 rfl) ?_
    refine lv_iload_n hx hb dX8_waveToAsk_47 rfl (lv_at hl 1 rfl) ?_
    obtain ⟨q_, s5, hc, hB⟩ := bindI_inv hB
    refine q_goiF (va_runV (As := [.int x4, .int x6, .int x1]) (rest := [.int x5]) C (ckX8_fittingWith hc _) (cwV 3 hts gX8_waveToAsk_X8_fittingWith rfl rfl rfl (by decide +kernel) ⟨Nat.le_of_ble_eq_true rfl, Nat.le_of_ble_eq_true rfl⟩) (q_preV hK hP (ci := 8) (q0 := 41) rfl rfl rfl (q_preF hN hK hP hD)) rfl rfl hl.1 rfl (lv_room (Nat.le_of_ble_eq_true rfl)) dX8_waveToAsk_48 ⟨Nat.le_of_ble_eq_true rfl, Nat.le_of_ble_eq_true rfl⟩) hD hS hA (fun r6 w1 H locs hw hP hD hS => ?_)
    obtain ⟨hq_, hw⟩ := hw; subst hw; subst hq_
    refine va_mmax hx hb (hml.trans hl.1.symm) hown (hts _ LX8_waveToAsk_M83) (hts _ LX8_waveToAsk_MSmax) (hts _ LX8_waveToAsk_MI) (hts _ LX8_waveToAsk_MCmax) (Nat.le_of_ble_eq_true rfl) (Nat.le_of_ble_eq_true rfl) (Nat.zero_le _) (Nat.zero_le _) dX8_waveToAsk_51 ?_
    refine q_top (y := (mmax x5 r6)) rfl ?_
    refine lv_istore (lv' := [(5, .int (mmax x5 r6)), (0, .ref (a 41)), (1, .int x1), (2, .int x2), (3, .int x3), (4, .int x4), (6, .int x6)]) hx hb dX8_waveToAsk_54 hl (by decide) rfl (fun ls hl => ?_)
    refine lv_iinc (v := (x6 + 1)) (lv' := [(6, .int (x6 + 1)), (5, .int (mmax x5 r6)), (0, .ref (a 41)), (1, .int x1), (2, .int x2), (3, .int x3), (4, .int x4)]) hx hb dX8_waveToAsk_56 hl (k := 6) rfl (rfl) (by decide) rfl (fun ls hl => ?_)
    refine lv_goto (tgt := 33) hx hb dX8_waveToAsk_59 (by decide) ?_
    exact hk33 _ _ _ _ _ _ _ hB p e s0 m below meth c A E H locs ls hP hD hS (lv_sub hl [2, 3, 4, 5, 6, 1, 0] rfl)
theorem bkX8_waveToAsk_33L {l : Launch} {dC : Nat → ClassId} {dI : Nat → Nat → Nat} {cB cI cJ cZ cS : ClassId} {a : Nat → Nat} {as : List Value} {r : Int32} {s' : KS} {k8 : KS → Int32 → Int32 → Int32 → Int32 → Option (Int32 × KS)} (hk8 : ∀ (s : KS) (x1 : Int32) (x2 : Int32) (x3 : Int32) (x4 : Int32), k8 s x1 x2 x3 x4 = some (r, s') → BlkI l yX8_waveToAsk wsX8_waveToAsk ({ frames := 2, cells := 0, slots := 0, locals := 50 }) cX8_waveToAsk 7 (some .int) (dC, dI) (tysA cB cI cJ cZ cS) as 8 (wK cB cI cJ cZ cS a s) [(0, .ref (a 41)), (1, .int x1), (2, .int x2), (3, .int x3), (4, .int x4)] [] (fun x u => x = r ∧ u = (wK cB cI cJ cZ cS a s'))) : ∀ (n : Nat) (s : KS) (x1 : Int32) (x2 : Int32) (x3 : Int32) (x4 : Int32) (x5 : Int32) (x6 : Int32), kX8_waveToAsk_33L k8 n s x1 x2 x3 x4 x5 x6 = some (r, s') → BlkI l yX8_waveToAsk wsX8_waveToAsk ({ frames := 2, cells := 0, slots := 0, locals := 50 }) cX8_waveToAsk 7 (some .int) (dC, dI) (tysA cB cI cJ cZ cS) as 33 (wK cB cI cJ cZ cS a s) [(0, .ref (a 41)), (1, .int x1), (2, .int x2), (3, .int x3), (4, .int x4), (5, .int x5), (6, .int x6)] [] (fun x u => x = r ∧ u = (wK cB cI cJ cZ cS a s')) := by
  intro n
  induction n with
  | zero => intro s x1 x2 x3 x4 x5 x6 hB; exact none_ne hB
  | succ n ih => intro s x1 x2 x3 x4 x5 x6 hB; exact bkX8_waveToAsk_33 hk8 ih _ _ _ _ _ _ _ hB
set_option maxHeartbeats 4000000 in
set_option maxRecDepth 100000 in
theorem bkX8_waveToAsk_8 {l : Launch} {dC : Nat → ClassId} {dI : Nat → Nat → Nat} {cB cI cJ cZ cS : ClassId} {a : Nat → Nat} {as : List Value} {r : Int32} {s' : KS} {k8 : KS → Int32 → Int32 → Int32 → Int32 → Option (Int32 × KS)} (hk8 : ∀ (s : KS) (x1 : Int32) (x2 : Int32) (x3 : Int32) (x4 : Int32), k8 s x1 x2 x3 x4 = some (r, s') → BlkI l yX8_waveToAsk wsX8_waveToAsk ({ frames := 2, cells := 0, slots := 0, locals := 50 }) cX8_waveToAsk 7 (some .int) (dC, dI) (tysA cB cI cJ cZ cS) as 8 (wK cB cI cJ cZ cS a s) [(0, .ref (a 41)), (1, .int x1), (2, .int x2), (3, .int x3), (4, .int x4)] [] (fun x u => x = r ∧ u = (wK cB cI cJ cZ cS a s'))) (s : KS) (x1 : Int32) (x2 : Int32) (x3 : Int32) (x4 : Int32) (hB : kX8_waveToAsk_8 k8 s x1 x2 x3 x4 = some (r, s')) : BlkI l yX8_waveToAsk wsX8_waveToAsk ({ frames := 2, cells := 0, slots := 0, locals := 50 }) cX8_waveToAsk 7 (some .int) (dC, dI) (tysA cB cI cJ cZ cS) as 8 (wK cB cI cJ cZ cS a s) [(0, .ref (a 41)), (1, .int x1), (2, .int x2), (3, .int x3), (4, .int x4)] [] (fun x u => x = r ∧ u = (wK cB cI cJ cZ cS a s')) := by
  intro p e s0 m below meth c A E H locs ls hP hD hS hl
  obtain ⟨C, hr, hlocks, hA, hK, hN⟩ := id E
  obtain ⟨hx, hb, hml, hown, hts⟩ := id C
  unfold kX8_waveToAsk_8 at hB
  refine lv_iload hx hb dX8_waveToAsk_8 (lv_at hl 4 rfl) ?_
  refine lv_aload_n hx hb dX8_waveToAsk_10 rfl (lv_at hl 0 rfl) ?_
  refine q_get (v := .ref (a 2)) C inX8_waveToAsk_X8 hK hP 41 rfl rfl 0 (by decide) rfl LX8_waveToAsk_27 rfl dX8_waveToAsk_11 ?_
  refine q_getN (v := .int (s.v 1)) C hN inX8_waveToAsk_X5 hK hP 2 rfl rfl 6 (by decide) rfl nwF_X8_39 rfl dX8_waveToAsk_14 ?_
  refine lv_icmp_ge (tgt := 91) hx hb dX8_waveToAsk_17 (by decide) (fun c1 => ?_) (fun c1 => ?_)
  · have hB := if_p hB c1
    refine lv_iload_n hx hb dX8_waveToAsk_91 rfl (lv_at hl 2 rfl) ?_
    exact q_iret C hr hlocks hK hP hD hS (Nat.le_of_ble_eq_true rfl) (Nat.le_of_ble_eq_true rfl) dX8_waveToAsk_92 (by cases hB; exact ⟨rfl, rfl⟩)
  · have hB := if_n hB c1
    refine lv_aload_n hx hb dX8_waveToAsk_20 rfl (lv_at hl 0 rfl) ?_
    refine lv_iload hx hb dX8_waveToAsk_21 (lv_at hl 4 rfl) ?_
    refine lv_iconst (v := 0) hx hb dX8_waveToAsk_23 (by decide) ?_
    obtain ⟨s2, hc, hB⟩ := bindP_inv hB
    refine q_govF (va_runV (As := [.int x4, .int 0]) (rest := []) C (ckX8_sortByLies hc _) (cwV 2 hts gX8_waveToAsk_X8_sortByLies rfl rfl rfl (by decide +kernel) ⟨Nat.le_of_ble_eq_true rfl, Nat.le_of_ble_eq_true rfl⟩) (q_preV hK hP (ci := 8) (q0 := 41) rfl rfl rfl (q_preF hN hK hP hD)) rfl rfl hl.1 rfl (lv_room (Nat.le_of_ble_eq_true rfl)) dX8_waveToAsk_24 ⟨Nat.le_of_ble_eq_true rfl, Nat.le_of_ble_eq_true rfl⟩) hD hS hA (fun w1 H locs hw hP hD hS => ?_)
    subst hw
    refine lv_iconst (v := 0) hx hb dX8_waveToAsk_27 (by decide) ?_
    refine lv_istore (lv' := [(5, .int 0), (0, .ref (a 41)), (1, .int x1), (2, .int x2), (3, .int x3), (4, .int x4)]) hx hb dX8_waveToAsk_28 hl (by decide) rfl (fun ls hl => ?_)
    refine lv_iconst (v := 0) hx hb dX8_waveToAsk_30 (by decide) ?_
    refine lv_istore (lv' := [(6, .int 0), (5, .int 0), (0, .ref (a 41)), (1, .int x1), (2, .int x2), (3, .int x3), (4, .int x4)]) hx hb dX8_waveToAsk_31 hl (by decide) rfl (fun ls hl => ?_)
    exact bkX8_waveToAsk_33L (hk8) fu _ _ _ _ _ _ _ hB p e s0 m below meth c A E H locs ls hP hD hS (lv_sub hl [2, 3, 4, 5, 6, 1, 0] rfl)
theorem bkX8_waveToAsk_8L {l : Launch} {dC : Nat → ClassId} {dI : Nat → Nat → Nat} {cB cI cJ cZ cS : ClassId} {a : Nat → Nat} {as : List Value} {r : Int32} {s' : KS} : ∀ (n : Nat) (s : KS) (x1 : Int32) (x2 : Int32) (x3 : Int32) (x4 : Int32), kX8_waveToAsk_8L n s x1 x2 x3 x4 = some (r, s') → BlkI l yX8_waveToAsk wsX8_waveToAsk ({ frames := 2, cells := 0, slots := 0, locals := 50 }) cX8_waveToAsk 7 (some .int) (dC, dI) (tysA cB cI cJ cZ cS) as 8 (wK cB cI cJ cZ cS a s) [(0, .ref (a 41)), (1, .int x1), (2, .int x2), (3, .int x3), (4, .int x4)] [] (fun x u => x = r ∧ u = (wK cB cI cJ cZ cS a s')) := by
  intro n
  induction n with
  | zero => intro s x1 x2 x3 x4 hB; exact none_ne hB
  | succ n ih => intro s x1 x2 x3 x4 hB; exact bkX8_waveToAsk_8 ih _ _ _ _ _ hB
set_option maxHeartbeats 4000000 in
set_option maxRecDepth 100000 in
theorem bkX8_waveToAsk {l : Launch} {dC : Nat → ClassId} {dI : Nat → Nat → Nat} {cB cI cJ cZ cS : ClassId} {a : Nat → Nat} {as : List Value} {r : Int32} {s' : KS} (s : KS) (x1 : Int32) (hB : kX8_waveToAsk s x1 = some (r, s')) : BlkI l yX8_waveToAsk wsX8_waveToAsk ({ frames := 2, cells := 0, slots := 0, locals := 50 }) cX8_waveToAsk 7 (some .int) (dC, dI) (tysA cB cI cJ cZ cS) as 0 (wK cB cI cJ cZ cS a s) [(0, .ref (a 41)), (1, .int x1)] [] (fun x u => x = r ∧ u = (wK cB cI cJ cZ cS a s')) := by
  intro p e s0 m below meth c A E H locs ls hP hD hS hl
  obtain ⟨C, hr, hlocks, hA, hK, hN⟩ := id E
  obtain ⟨hx, hb, hml, hown, hts⟩ := id C
  unfold kX8_waveToAsk at hB
  refine lv_bipush (v := (-2)) hx hb dX8_waveToAsk_0 (by decide) ?_
  refine lv_istore_n (lv' := [(2, .int (-2)), (0, .ref (a 41)), (1, .int x1)]) hx hb dX8_waveToAsk_2 rfl hl (by decide) rfl (fun ls hl => ?_)
  refine lv_iconst (v := 0) hx hb dX8_waveToAsk_3 (by decide) ?_
  refine lv_istore_n (lv' := [(3, .int 0), (2, .int (-2)), (0, .ref (a 41)), (1, .int x1)]) hx hb dX8_waveToAsk_4 rfl hl (by decide) rfl (fun ls hl => ?_)
  refine lv_iconst (v := 0) hx hb dX8_waveToAsk_5 (by decide) ?_
  refine lv_istore (lv' := [(4, .int 0), (3, .int 0), (2, .int (-2)), (0, .ref (a 41)), (1, .int x1)]) hx hb dX8_waveToAsk_6 hl (by decide) rfl (fun ls hl => ?_)
  exact bkX8_waveToAsk_8L fu _ _ _ _ _ hB p e s0 m below meth c A E H locs ls hP hD hS (lv_sub hl [3, 4, 2, 1, 0] rfl)
theorem ckX8_waveToAsk {l : Launch} {dC : Nat → ClassId} {dI : Nat → Nat → Nat} {cB cI cJ cZ cS : ClassId} {a : Nat → Nat} {r : Int32} {s' : KS} {s : KS} {x1 : Int32} (hB : kX8_waveToAsk s x1 = some (r, s')) : CI l yX8_waveToAsk wsX8_waveToAsk ({ frames := 2, cells := 0, slots := 0, locals := 50 }) (dC, dI) (tysA cB cI cJ cZ cS) (wK cB cI cJ cZ cS a s) [.ref (a 41), .int x1] (fun x u => x = r ∧ u = (wK cB cI cJ cZ cS a s')) :=
  CI_of (cc := cX8_waveToAsk) (maxL := 7) (ret := (some .int)) (by decide) rfl (Nat.le_of_ble_eq_true rfl) (bkX8_waveToAsk _ _ hB)
theorem LX10_odds_19 : Cond.fieldLink RX10 19 "GuessFerry" "sound" "LGuessFerry$Sound;" ∈ wsX10_odds := (List.mem_cons_of_mem _ (List.mem_append_left _ (List.mem_append_left _ (List.mem_append_left _ (List.mem_of_getElem? (i := 0) rfl)))))
theorem LX10_odds_E_X5_hasWave : Cond.selects RX5 yX5_hasWave yX5_hasWave ∈ wsX10_odds := (List.mem_cons_of_mem _ (List.mem_append_left _ (List.mem_append_left _ (List.mem_append_left _ (List.mem_of_getElem? (i := 3) rfl)))))
theorem LX10_odds_E_X5_oddsAt : Cond.selects RX5 yX5_oddsAt yX5_oddsAt ∈ wsX10_odds := (List.mem_cons_of_mem _ (List.mem_append_left _ (List.mem_append_left _ (List.mem_append_left _ (List.mem_of_getElem? (i := 8) rfl)))))
theorem LX10_odds_I_X5 : Cond.initialized RX5 ∈ wsX10_odds := (List.mem_cons_of_mem _ (List.mem_append_left _ (List.mem_append_left _ (List.mem_append_left _ (List.mem_of_getElem? (i := 2) rfl)))))
theorem LX10_odds_N_X5_hasWave : Cond.instanceMethod yX5_hasWave ∈ wsX10_odds := (List.mem_cons_of_mem _ (List.mem_append_left _ (List.mem_append_left _ (List.mem_append_left _ (List.mem_of_getElem? (i := 1) rfl)))))
theorem LX10_odds_N_X5_oddsAt : Cond.instanceMethod yX5_oddsAt ∈ wsX10_odds := (List.mem_cons_of_mem _ (List.mem_append_left _ (List.mem_append_left _ (List.mem_append_left _ (List.mem_of_getElem? (i := 7) rfl)))))
theorem inX10_odds_X10 : ∀ w ∈ u_ws RX10 TX10 9, w ∈ wsX10_odds := fun w h => (List.mem_cons_of_mem _ (List.mem_append_left _ (List.mem_append_right _ h)))
set_option maxHeartbeats 4000000 in
set_option maxRecDepth 100000 in
theorem bkX10_odds {l : Launch} {dC : Nat → ClassId} {dI : Nat → Nat → Nat} {cB cI cJ cZ cS : ClassId} {a b b2 c0 : Nat → Nat} {rg sl : Nat → Option Nat} {as : List Value} {r : Int32} {s' : XS} (s : XS) (x1 : Int32) (x2 : Int32) (hB : kX10_odds s x1 x2 = some (r, s')) : BlkI l yX10_odds wsX10_odds ({ frames := 1, cells := 0, slots := 0, locals := 22 }) cX10_odds 3 (some .int) (dC, dI) (tysA cB cI cJ cZ cS) as 0 (wX cB cI cJ cZ cS a b b2 c0 rg sl s) [(0, .ref (c0 0)), (1, .int x1), (2, .int x2)] [] (fun x u => x = r ∧ u = (wX cB cI cJ cZ cS a b b2 c0 rg sl s')) := by
  intro p e s0 m below meth c A E H locs ls hP hD hS hl
  obtain ⟨C, hr, hlocks, hA, hK, hN⟩ := id E
  obtain ⟨hx, hb, hml, hown, hts⟩ := id C
  unfold kX10_odds at hB
  refine lv_aload_n hx hb dX10_odds_0 rfl (lv_at hl 0 rfl) ?_
  refine q_get (v := .ref (a 2)) C inX10_odds_X10 hK hP 0 rfl rfl 1 (by decide) rfl LX10_odds_19 rfl dX10_odds_1 ?_
  refine lv_iload_n hx hb dX10_odds_4 rfl (lv_at hl 1 rfl) ?_
  obtain ⟨q_, s1, hc, hB⟩ := bindI_inv hB
  refine q_goi (wr := ((wG cZ cS a b b2 c0 rg sl s.g) ++ (wD cI b2 s.t) ++ (wD cI b s.n))) (va_runVN (As := [.int x1]) (rest := []) C (ckX5_hasWave hc _) ⟨va_cnB 1 hts gX10_odds_X5_hasWave_n108 rfl rfl rfl (hN _ nwM_X10_108 rfl) (hts _ LX10_odds_I_X5) (by decide +kernel) ⟨Nat.le_of_ble_eq_true rfl, Nat.le_of_ble_eq_true rfl⟩, hts _ LX10_odds_N_X5_hasWave, hts _ LX10_odds_E_X5_hasWave⟩ (q_preV hK hP (ci := 5) (q0 := 19) rfl rfl rfl (q_pre hN hK hP hD [17, 18, 19, 20, 21, 22, 23, 24, 25, 26, 27, 28, 29, 30, 31, 32, 33, 34, 35, 36, 37, 38, 39, 40, 41, 42, 43, 44, 45, 46, 47, 48, 49, 50, 51, 52, 53, 54, 55, 56, 57, 58, 59, 60, 61, 62, 63] (by first | exact zqs_0X | rfl) zqn_0)) rfl rfl hl.1 rfl (lv_room (Nat.le_of_ble_eq_true rfl)) dX10_odds_5 ⟨Nat.le_of_ble_eq_true rfl, Nat.le_of_ble_eq_true rfl⟩) hP hD hS hA [17, 18, 19, 20, 21, 22, 23, 24, 25, 26, 27, 28, 29, 30, 31, 32, 33, 34, 35, 36, 37, 38, 39, 40, 41, 42, 43, 44, 45, 46, 47, 48, 49, 50, 51, 52, 53, 54, 55, 56, 57, 58, 59, 60, 61, 62, 63] [0, 1, 2, 3, 4, 5, 6, 7, 8, 9, 10, 11, 12, 13, 14, 15, 16] (by first | exact zqs_0X | rfl) (by first | exact zqs_1X | rfl) zqn_1 zqd_0 (fun r2 w1 H locs hw hP hD hS => ?_)
  obtain ⟨hq_, hw⟩ := hw; subst hw; subst hq_
  obtain ⟨s3, hs4, hB⟩ := letS_inv hB
  have hP : va_P (dC, dI) vwCl (wX cB cI cJ cZ cS a b b2 c0 rg sl s3) H := by subst hs4; exact hP
  have hD : va_D A (wX cB cI cJ cZ cS a b b2 c0 rg sl s3) := by subst hs4; exact hD
  refine lv_if_eq (tgt := 30) hx hb dX10_odds_8 (by decide) (fun c5 => ?_) (fun c5 => ?_)
  · have hB := if_p hB c5
    refine lv_iconst (v := (-1)) hx hb dX10_odds_30 (by decide) ?_
    exact q_iret C hr hlocks hK hP hD hS (Nat.le_of_ble_eq_true rfl) (Nat.le_of_ble_eq_true rfl) dX10_odds_31 (by cases hB; exact ⟨rfl, rfl⟩)
  · have hB := if_n hB c5
    refine lv_iload_n hx hb dX10_odds_11 rfl (lv_at hl 2 rfl) ?_
    obtain ⟨q_, hc, hB⟩ := bindP_inv hB
    refine q_goi0 (va_runS (As := [.int x2]) (rest := []) C (ckX10_isThing hc _) (va_cwS 1 hts gX10_odds_X10_isThing rfl rfl rfl (by decide +kernel) ⟨Nat.le_of_ble_eq_true rfl, Nat.le_of_ble_eq_true rfl⟩) (q_pre0 hN hK) rfl rfl hl.1 rfl (lv_room (Nat.le_of_ble_eq_true rfl)) dX10_odds_12 ⟨Nat.le_of_ble_eq_true rfl, Nat.le_of_ble_eq_true rfl⟩) hP hD hS hA (fun r6 w1 H locs hw hP hS => ?_)
    subst hw
    refine lv_if_eq (tgt := 30) hx hb dX10_odds_15 (by decide) (fun c7 => ?_) (fun c7 => ?_)
    · have hB := if_p hB c7
      refine lv_iconst (v := (-1)) hx hb dX10_odds_30 (by decide) ?_
      exact q_iret C hr hlocks hK hP hD hS (Nat.le_of_ble_eq_true rfl) (Nat.le_of_ble_eq_true rfl) dX10_odds_31 (by cases hB; exact ⟨rfl, rfl⟩)
    · have hB := if_n hB c7
      refine lv_aload_n hx hb dX10_odds_18 rfl (lv_at hl 0 rfl) ?_
      refine q_get (v := .ref (a 2)) C inX10_odds_X10 hK hP 0 rfl rfl 1 (by decide) rfl LX10_odds_19 rfl dX10_odds_19 ?_
      refine lv_iload_n hx hb dX10_odds_22 rfl (lv_at hl 1 rfl) ?_
      refine lv_iload_n hx hb dX10_odds_23 rfl (lv_at hl 2 rfl) ?_
      obtain ⟨q_, s8, hc, hB⟩ := bindI_inv hB
      refine q_goi (wr := ((wG cZ cS a b b2 c0 rg sl s3.g) ++ (wD cI b2 s3.t) ++ (wD cI b s3.n))) (va_runVN (As := [.int x1, .int x2]) (rest := []) C (ckX5_oddsAt hc _) ⟨va_cnB 2 hts gX10_odds_X5_oddsAt_n134 rfl rfl rfl (hN _ nwM_X10_134 rfl) (hts _ LX10_odds_I_X5) (by decide +kernel) ⟨Nat.le_of_ble_eq_true rfl, Nat.le_of_ble_eq_true rfl⟩, hts _ LX10_odds_N_X5_oddsAt, hts _ LX10_odds_E_X5_oddsAt⟩ (q_preV hK hP (ci := 5) (q0 := 19) rfl rfl rfl (q_pre hN hK hP hD [17, 18, 19, 20, 21, 22, 23, 24, 25, 26, 27, 28, 29, 30, 31, 32, 33, 34, 35, 36, 37, 38, 39, 40, 41, 42, 43, 44, 45, 46, 47, 48, 49, 50, 51, 52, 53, 54, 55, 56, 57, 58, 59, 60, 61, 62, 63] (by first | exact zqs_0X | rfl) zqn_0)) rfl rfl hl.1 rfl (lv_room (Nat.le_of_ble_eq_true rfl)) dX10_odds_24 ⟨Nat.le_of_ble_eq_true rfl, Nat.le_of_ble_eq_true rfl⟩) hP hD hS hA [17, 18, 19, 20, 21, 22, 23, 24, 25, 26, 27, 28, 29, 30, 31, 32, 33, 34, 35, 36, 37, 38, 39, 40, 41, 42, 43, 44, 45, 46, 47, 48, 49, 50, 51, 52, 53, 54, 55, 56, 57, 58, 59, 60, 61, 62, 63] [0, 1, 2, 3, 4, 5, 6, 7, 8, 9, 10, 11, 12, 13, 14, 15, 16] (by first | exact zqs_0X | rfl) (by first | exact zqs_1X | rfl) zqn_1 zqd_0 (fun r9 w1 H locs hw hP hD hS => ?_)
      obtain ⟨hq_, hw⟩ := hw; subst hw; subst hq_
      obtain ⟨s10, hs11, hB⟩ := letS_inv hB
      have hP : va_P (dC, dI) vwCl (wX cB cI cJ cZ cS a b b2 c0 rg sl s10) H := by subst hs11; exact hP
      have hD : va_D A (wX cB cI cJ cZ cS a b b2 c0 rg sl s10) := by subst hs11; exact hD
      refine lv_goto (tgt := 31) hx hb dX10_odds_27 (by decide) ?_
      exact q_iret C hr hlocks hK hP hD hS (Nat.le_of_ble_eq_true rfl) (Nat.le_of_ble_eq_true rfl) dX10_odds_31 (by cases hB; exact ⟨rfl, rfl⟩)
theorem ckX10_odds {l : Launch} {dC : Nat → ClassId} {dI : Nat → Nat → Nat} {cB cI cJ cZ cS : ClassId} {a b b2 c0 : Nat → Nat} {rg sl : Nat → Option Nat} {r : Int32} {s' : XS} {s : XS} {x1 : Int32} {x2 : Int32} (hB : kX10_odds s x1 x2 = some (r, s')) : CI l yX10_odds wsX10_odds ({ frames := 1, cells := 0, slots := 0, locals := 22 }) (dC, dI) (tysA cB cI cJ cZ cS) (wX cB cI cJ cZ cS a b b2 c0 rg sl s) [.ref (c0 0), .int x1, .int x2] (fun x u => x = r ∧ u = (wX cB cI cJ cZ cS a b b2 c0 rg sl s')) :=
  CI_of (cc := cX10_odds) (maxL := 3) (ret := (some .int)) (by decide) rfl (Nat.le_of_ble_eq_true rfl) (bkX10_odds _ _ _ hB)
theorem LX10_cases_35 : Cond.fieldLink RX10 35 "GuessFerry" "now" "LGuessFerry$Standing;" ∈ wsX10_cases := (List.mem_cons_of_mem _ (List.mem_append_left _ (List.mem_append_left _ (List.mem_append_left _ (List.mem_append_left _ (List.mem_append_left _ (List.mem_append_left _ (List.mem_of_getElem? (i := 1) rfl))))))))
theorem LX10_cases_63 : Cond.fieldLink RX10 63 "GuessFerry" "outlook" "LGuessFerry$Outlook;" ∈ wsX10_cases := (List.mem_cons_of_mem _ (List.mem_append_left _ (List.mem_append_left _ (List.mem_append_left _ (List.mem_append_left _ (List.mem_append_left _ (List.mem_append_left _ (List.mem_of_getElem? (i := 0) rfl))))))))
theorem LX10_cases_E_X2_caseCount : Cond.selects RX2 yX2_caseCount yX2_caseCount ∈ wsX10_cases := (List.mem_cons_of_mem _ (List.mem_append_left _ (List.mem_append_left _ (List.mem_append_left _ (List.mem_append_left _ (List.mem_append_left _ (List.mem_append_left _ (List.mem_of_getElem? (i := 4) rfl))))))))
theorem LX10_cases_I_X2 : Cond.initialized RX2 ∈ wsX10_cases := (List.mem_cons_of_mem _ (List.mem_append_left _ (List.mem_append_left _ (List.mem_append_left _ (List.mem_append_left _ (List.mem_append_left _ (List.mem_append_left _ (List.mem_of_getElem? (i := 3) rfl))))))))
theorem LX10_cases_N_X2_caseCount : Cond.instanceMethod yX2_caseCount ∈ wsX10_cases := (List.mem_cons_of_mem _ (List.mem_append_left _ (List.mem_append_left _ (List.mem_append_left _ (List.mem_append_left _ (List.mem_append_left _ (List.mem_append_left _ (List.mem_of_getElem? (i := 2) rfl))))))))
theorem inX10_cases_X10 : ∀ w ∈ u_ws RX10 TX10 9, w ∈ wsX10_cases := fun w h => (List.mem_cons_of_mem _ (List.mem_append_left _ (List.mem_append_left _ (List.mem_append_left _ (List.mem_append_left _ (List.mem_append_right _ h))))))
set_option maxHeartbeats 4000000 in
set_option maxRecDepth 100000 in
theorem bkX10_cases {l : Launch} {dC : Nat → ClassId} {dI : Nat → Nat → Nat} {cB cI cJ cZ cS : ClassId} {a b b2 c0 : Nat → Nat} {rg sl : Nat → Option Nat} {as : List Value} {r : Int32} {s' : XS} (s : XS) (hB : kX10_cases s = some (r, s')) : BlkI l yX10_cases wsX10_cases ({ frames := 3, cells := 0, slots := 0, locals := 67 }) cX10_cases 1 (some .int) (dC, dI) (tysA cB cI cJ cZ cS) as 0 (wX cB cI cJ cZ cS a b b2 c0 rg sl s) [(0, .ref (c0 0))] [] (fun x u => x = r ∧ u = (wX cB cI cJ cZ cS a b b2 c0 rg sl s')) := by
  intro p e s0 m below meth c A E H locs ls hP hD hS hl
  obtain ⟨C, hr, hlocks, hA, hK, hN⟩ := id E
  obtain ⟨hx, hb, hml, hown, hts⟩ := id C
  unfold kX10_cases at hB
  refine lv_aload_n hx hb dX10_cases_0 rfl (lv_at hl 0 rfl) ?_
  refine q_get (v := .ref (a 36)) C inX10_cases_X10 hK hP 0 rfl rfl 7 (by decide) rfl LX10_cases_63 rfl dX10_cases_1 ?_
  refine lv_aload_n hx hb dX10_cases_4 rfl (lv_at hl 0 rfl) ?_
  refine q_get (v := .ref (b 0)) C inX10_cases_X10 hK hP 0 rfl rfl 3 (by decide) rfl LX10_cases_35 rfl dX10_cases_5 ?_
  obtain ⟨q_, s1, hc, hB⟩ := bindI_inv hB
  refine q_goi (wr := ((wG cZ cS a b b2 c0 rg sl s.g) ++ (wD cI b2 s.t))) (va_runVN (As := [.ref (b 0)]) (rest := []) C (ckX2_caseCount hc _) ⟨va_cnB 1 hts gX10_cases_X2_caseCount_n196 rfl rfl rfl (hN _ nwM_X10_196 rfl) (hts _ LX10_cases_I_X2) (by decide +kernel) ⟨Nat.le_of_ble_eq_true rfl, Nat.le_of_ble_eq_true rfl⟩, hts _ LX10_cases_N_X2_caseCount, hts _ LX10_cases_E_X2_caseCount⟩ (q_preV hK hP (ci := 2) (q0 := 53) rfl rfl rfl (q_pre hN hK hP hD [11, 12, 13, 14, 15, 16, 17, 18, 19, 20, 21, 22, 23, 24, 25, 26, 27, 28, 29, 30, 31, 32, 33, 34, 35, 36, 37, 38, 39, 40, 41, 42, 43, 44, 45, 46, 47, 48, 49, 50, 51, 52, 53, 54, 55, 56, 57, 58, 59, 60, 61, 62, 63] (by first | exact zqs_2X | rfl) zqn_2)) rfl rfl hl.1 rfl (lv_room (Nat.le_of_ble_eq_true rfl)) dX10_cases_8 ⟨Nat.le_of_ble_eq_true rfl, Nat.le_of_ble_eq_true rfl⟩) hP hD hS hA [11, 12, 13, 14, 15, 16, 17, 18, 19, 20, 21, 22, 23, 24, 25, 26, 27, 28, 29, 30, 31, 32, 33, 34, 35, 36, 37, 38, 39, 40, 41, 42, 43, 44, 45, 46, 47, 48, 49, 50, 51, 52, 53, 54, 55, 56, 57, 58, 59, 60, 61, 62, 63] [0, 1, 2, 3, 4, 5, 6, 7, 8, 9, 10] (by first | exact zqs_2X | rfl) (by first | exact zqs_3X | rfl) zqn_3 zqd_1 (fun r2 w1 H locs hw hP hD hS => ?_)
  obtain ⟨hq_, hw⟩ := hw; subst hw; subst hq_
  obtain ⟨s3, hs4, hB⟩ := letS_inv hB
  have hP : va_P (dC, dI) vwCl (wX cB cI cJ cZ cS a b b2 c0 rg sl s3) H := by subst hs4; exact hP
  have hD : va_D A (wX cB cI cJ cZ cS a b b2 c0 rg sl s3) := by subst hs4; exact hD
  exact q_iret C hr hlocks hK hP hD hS (Nat.le_of_ble_eq_true rfl) (Nat.le_of_ble_eq_true rfl) dX10_cases_11 (by cases hB; exact ⟨rfl, rfl⟩)
theorem ckX10_cases {l : Launch} {dC : Nat → ClassId} {dI : Nat → Nat → Nat} {cB cI cJ cZ cS : ClassId} {a b b2 c0 : Nat → Nat} {rg sl : Nat → Option Nat} {r : Int32} {s' : XS} {s : XS} (hB : kX10_cases s = some (r, s')) : CI l yX10_cases wsX10_cases ({ frames := 3, cells := 0, slots := 0, locals := 67 }) (dC, dI) (tysA cB cI cJ cZ cS) (wX cB cI cJ cZ cS a b b2 c0 rg sl s) [.ref (c0 0)] (fun x u => x = r ∧ u = (wX cB cI cJ cZ cS a b b2 c0 rg sl s')) :=
  CI_of (cc := cX10_cases) (maxL := 1) (ret := (some .int)) (by decide) rfl (Nat.le_of_ble_eq_true rfl) (bkX10_cases _ hB)
theorem LX10_chance_19 : Cond.fieldLink RX10 19 "GuessFerry" "sound" "LGuessFerry$Sound;" ∈ wsX10_chance := (List.mem_cons_of_mem _ (List.mem_append_left _ (List.mem_append_left _ (List.mem_append_left _ (List.mem_append_left _ (List.mem_append_left _ (List.mem_append_left _ (List.mem_of_getElem? (i := 0) rfl))))))))
theorem LX10_chance_35 : Cond.fieldLink RX10 35 "GuessFerry" "now" "LGuessFerry$Standing;" ∈ wsX10_chance := (List.mem_cons_of_mem _ (List.mem_append_left _ (List.mem_append_left _ (List.mem_append_left _ (List.mem_append_left _ (List.mem_append_left _ (List.mem_append_left _ (List.mem_of_getElem? (i := 2) rfl))))))))
theorem LX10_chance_63 : Cond.fieldLink RX10 63 "GuessFerry" "outlook" "LGuessFerry$Outlook;" ∈ wsX10_chance := (List.mem_cons_of_mem _ (List.mem_append_left _ (List.mem_append_left _ (List.mem_append_left _ (List.mem_append_left _ (List.mem_append_left _ (List.mem_append_left _ (List.mem_of_getElem? (i := 1) rfl))))))))
theorem LX10_chance_E_X2_oddsOf : Cond.selects RX2 yX2_oddsOf yX2_oddsOf ∈ wsX10_chance := (List.mem_cons_of_mem _ (List.mem_append_left _ (List.mem_append_left _ (List.mem_append_left _ (List.mem_append_left _ (List.mem_append_left _ (List.mem_append_left _ (List.mem_of_getElem? (i := 8) rfl))))))))
theorem LX10_chance_E_X5_hasGuess : Cond.selects RX5 yX5_hasGuess yX5_hasGuess ∈ wsX10_chance := (List.mem_cons_of_mem _ (List.mem_append_left _ (List.mem_append_left _ (List.mem_append_left _ (List.mem_append_left _ (List.mem_append_left _ (List.mem_append_left _ (List.mem_of_getElem? (i := 5) rfl))))))))
theorem LX10_chance_I_X2 : Cond.initialized RX2 ∈ wsX10_chance := (List.mem_cons_of_mem _ (List.mem_append_left _ (List.mem_append_left _ (List.mem_append_left _ (List.mem_append_left _ (List.mem_append_left _ (List.mem_append_left _ (List.mem_of_getElem? (i := 7) rfl))))))))
theorem LX10_chance_I_X5 : Cond.initialized RX5 ∈ wsX10_chance := (List.mem_cons_of_mem _ (List.mem_append_left _ (List.mem_append_left _ (List.mem_append_left _ (List.mem_append_left _ (List.mem_append_left _ (List.mem_append_left _ (List.mem_of_getElem? (i := 4) rfl))))))))
theorem LX10_chance_N_X2_oddsOf : Cond.instanceMethod yX2_oddsOf ∈ wsX10_chance := (List.mem_cons_of_mem _ (List.mem_append_left _ (List.mem_append_left _ (List.mem_append_left _ (List.mem_append_left _ (List.mem_append_left _ (List.mem_append_left _ (List.mem_of_getElem? (i := 6) rfl))))))))
theorem LX10_chance_N_X5_hasGuess : Cond.instanceMethod yX5_hasGuess ∈ wsX10_chance := (List.mem_cons_of_mem _ (List.mem_append_left _ (List.mem_append_left _ (List.mem_append_left _ (List.mem_append_left _ (List.mem_append_left _ (List.mem_append_left _ (List.mem_of_getElem? (i := 3) rfl))))))))
theorem inX10_chance_X10 : ∀ w ∈ u_ws RX10 TX10 9, w ∈ wsX10_chance := fun w h => (List.mem_cons_of_mem _ (List.mem_append_left _ (List.mem_append_left _ (List.mem_append_left _ (List.mem_append_left _ (List.mem_append_right _ h))))))
set_option maxHeartbeats 4000000 in
set_option maxRecDepth 100000 in
theorem bkX10_chance {l : Launch} {dC : Nat → ClassId} {dI : Nat → Nat → Nat} {cB cI cJ cZ cS : ClassId} {a b b2 c0 : Nat → Nat} {rg sl : Nat → Option Nat} {as : List Value} {r : Int32} {s' : XS} (s : XS) (x1 : Int32) (hB : kX10_chance s x1 = some (r, s')) : BlkI l yX10_chance wsX10_chance ({ frames := 3, cells := 0, slots := 0, locals := 69 }) cX10_chance 2 (some .int) (dC, dI) (tysA cB cI cJ cZ cS) as 0 (wX cB cI cJ cZ cS a b b2 c0 rg sl s) [(0, .ref (c0 0)), (1, .int x1)] [] (fun x u => x = r ∧ u = (wX cB cI cJ cZ cS a b b2 c0 rg sl s')) := by
  intro p e s0 m below meth c A E H locs ls hP hD hS hl
  obtain ⟨C, hr, hlocks, hA, hK, hN⟩ := id E
  obtain ⟨hx, hb, hml, hown, hts⟩ := id C
  unfold kX10_chance at hB
  refine lv_aload_n hx hb dX10_chance_0 rfl (lv_at hl 0 rfl) ?_
  refine q_get (v := .ref (a 2)) C inX10_chance_X10 hK hP 0 rfl rfl 1 (by decide) rfl LX10_chance_19 rfl dX10_chance_1 ?_
  refine lv_iload_n hx hb dX10_chance_4 rfl (lv_at hl 1 rfl) ?_
  obtain ⟨q_, s1, hc, hB⟩ := bindI_inv hB
  refine q_goi (wr := ((wG cZ cS a b b2 c0 rg sl s.g) ++ (wD cI b2 s.t) ++ (wD cI b s.n))) (va_runVN (As := [.int x1]) (rest := []) C (ckX5_hasGuess hc _) ⟨va_cnB 1 hts gX10_chance_X5_hasGuess_n170 rfl rfl rfl (hN _ nwM_X10_170 rfl) (hts _ LX10_chance_I_X5) (by decide +kernel) ⟨Nat.le_of_ble_eq_true rfl, Nat.le_of_ble_eq_true rfl⟩, hts _ LX10_chance_N_X5_hasGuess, hts _ LX10_chance_E_X5_hasGuess⟩ (q_preV hK hP (ci := 5) (q0 := 19) rfl rfl rfl (q_pre hN hK hP hD [17, 18, 19, 20, 21, 22, 23, 24, 25, 26, 27, 28, 29, 30, 31, 32, 33, 34, 35, 36, 37, 38, 39, 40, 41, 42, 43, 44, 45, 46, 47, 48, 49, 50, 51, 52, 53, 54, 55, 56, 57, 58, 59, 60, 61, 62, 63] (by first | exact zqs_0X | rfl) zqn_0)) rfl rfl hl.1 rfl (lv_room (Nat.le_of_ble_eq_true rfl)) dX10_chance_5 ⟨Nat.le_of_ble_eq_true rfl, Nat.le_of_ble_eq_true rfl⟩) hP hD hS hA [17, 18, 19, 20, 21, 22, 23, 24, 25, 26, 27, 28, 29, 30, 31, 32, 33, 34, 35, 36, 37, 38, 39, 40, 41, 42, 43, 44, 45, 46, 47, 48, 49, 50, 51, 52, 53, 54, 55, 56, 57, 58, 59, 60, 61, 62, 63] [0, 1, 2, 3, 4, 5, 6, 7, 8, 9, 10, 11, 12, 13, 14, 15, 16] (by first | exact zqs_0X | rfl) (by first | exact zqs_1X | rfl) zqn_1 zqd_0 (fun r2 w1 H locs hw hP hD hS => ?_)
  obtain ⟨hq_, hw⟩ := hw; subst hw; subst hq_
  obtain ⟨s3, hs4, hB⟩ := letS_inv hB
  have hP : va_P (dC, dI) vwCl (wX cB cI cJ cZ cS a b b2 c0 rg sl s3) H := by subst hs4; exact hP
  have hD : va_D A (wX cB cI cJ cZ cS a b b2 c0 rg sl s3) := by subst hs4; exact hD
  refine lv_if_eq (tgt := 26) hx hb dX10_chance_8 (by decide) (fun c5 => ?_) (fun c5 => ?_)
  · have hB := if_p hB c5
    refine lv_iconst (v := (-1)) hx hb dX10_chance_26 (by decide) ?_
    exact q_iret C hr hlocks hK hP hD hS (Nat.le_of_ble_eq_true rfl) (Nat.le_of_ble_eq_true rfl) dX10_chance_27 (by cases hB; exact ⟨rfl, rfl⟩)
  · have hB := if_n hB c5
    refine lv_aload_n hx hb dX10_chance_11 rfl (lv_at hl 0 rfl) ?_
    refine q_get (v := .ref (a 36)) C inX10_chance_X10 hK hP 0 rfl rfl 7 (by decide) rfl LX10_chance_63 rfl dX10_chance_12 ?_
    refine lv_aload_n hx hb dX10_chance_15 rfl (lv_at hl 0 rfl) ?_
    refine q_get (v := .ref (b 0)) C inX10_chance_X10 hK hP 0 rfl rfl 3 (by decide) rfl LX10_chance_35 rfl dX10_chance_16 ?_
    refine lv_iload_n hx hb dX10_chance_19 rfl (lv_at hl 1 rfl) ?_
    obtain ⟨q_, s6, hc, hB⟩ := bindI_inv hB
    refine q_goi (wr := ((wG cZ cS a b b2 c0 rg sl s3.g) ++ (wD cI b2 s3.t))) (va_runVN (As := [.ref (b 0), .int x1]) (rest := []) C (ckX2_oddsOf hc _) ⟨va_cnB 2 hts gX10_chance_X2_oddsOf_n200 rfl rfl rfl (hN _ nwM_X10_200 rfl) (hts _ LX10_chance_I_X2) (by decide +kernel) ⟨Nat.le_of_ble_eq_true rfl, Nat.le_of_ble_eq_true rfl⟩, hts _ LX10_chance_N_X2_oddsOf, hts _ LX10_chance_E_X2_oddsOf⟩ (q_preV hK hP (ci := 2) (q0 := 53) rfl rfl rfl (q_pre hN hK hP hD [11, 12, 13, 14, 15, 16, 17, 18, 19, 20, 21, 22, 23, 24, 25, 26, 27, 28, 29, 30, 31, 32, 33, 34, 35, 36, 37, 38, 39, 40, 41, 42, 43, 44, 45, 46, 47, 48, 49, 50, 51, 52, 53, 54, 55, 56, 57, 58, 59, 60, 61, 62, 63] (by first | exact zqs_2X | rfl) zqn_2)) rfl rfl hl.1 rfl (lv_room (Nat.le_of_ble_eq_true rfl)) dX10_chance_20 ⟨Nat.le_of_ble_eq_true rfl, Nat.le_of_ble_eq_true rfl⟩) hP hD hS hA [11, 12, 13, 14, 15, 16, 17, 18, 19, 20, 21, 22, 23, 24, 25, 26, 27, 28, 29, 30, 31, 32, 33, 34, 35, 36, 37, 38, 39, 40, 41, 42, 43, 44, 45, 46, 47, 48, 49, 50, 51, 52, 53, 54, 55, 56, 57, 58, 59, 60, 61, 62, 63] [0, 1, 2, 3, 4, 5, 6, 7, 8, 9, 10] (by first | exact zqs_2X | rfl) (by first | exact zqs_3X | rfl) zqn_3 zqd_1 (fun r7 w1 H locs hw hP hD hS => ?_)
    obtain ⟨hq_, hw⟩ := hw; subst hw; subst hq_
    obtain ⟨s8, hs9, hB⟩ := letS_inv hB
    have hP : va_P (dC, dI) vwCl (wX cB cI cJ cZ cS a b b2 c0 rg sl s8) H := by subst hs9; exact hP
    have hD : va_D A (wX cB cI cJ cZ cS a b b2 c0 rg sl s8) := by subst hs9; exact hD
    refine lv_goto (tgt := 27) hx hb dX10_chance_23 (by decide) ?_
    exact q_iret C hr hlocks hK hP hD hS (Nat.le_of_ble_eq_true rfl) (Nat.le_of_ble_eq_true rfl) dX10_chance_27 (by cases hB; exact ⟨rfl, rfl⟩)
theorem ckX10_chance {l : Launch} {dC : Nat → ClassId} {dI : Nat → Nat → Nat} {cB cI cJ cZ cS : ClassId} {a b b2 c0 : Nat → Nat} {rg sl : Nat → Option Nat} {r : Int32} {s' : XS} {s : XS} {x1 : Int32} (hB : kX10_chance s x1 = some (r, s')) : CI l yX10_chance wsX10_chance ({ frames := 3, cells := 0, slots := 0, locals := 69 }) (dC, dI) (tysA cB cI cJ cZ cS) (wX cB cI cJ cZ cS a b b2 c0 rg sl s) [.ref (c0 0), .int x1] (fun x u => x = r ∧ u = (wX cB cI cJ cZ cS a b b2 c0 rg sl s')) :=
  CI_of (cc := cX10_chance) (maxL := 2) (ret := (some .int)) (by decide) rfl (Nat.le_of_ble_eq_true rfl) (bkX10_chance _ _ hB)
theorem LX10_enough_35 : Cond.fieldLink RX10 35 "GuessFerry" "now" "LGuessFerry$Standing;" ∈ wsX10_enough := (List.mem_cons_of_mem _ (List.mem_append_left _ (List.mem_append_left _ (List.mem_append_left _ (List.mem_append_left _ (List.mem_append_left _ (List.mem_append_left _ (List.mem_of_getElem? (i := 1) rfl))))))))
theorem LX10_enough_63 : Cond.fieldLink RX10 63 "GuessFerry" "outlook" "LGuessFerry$Outlook;" ∈ wsX10_enough := (List.mem_cons_of_mem _ (List.mem_append_left _ (List.mem_append_left _ (List.mem_append_left _ (List.mem_append_left _ (List.mem_append_left _ (List.mem_append_left _ (List.mem_of_getElem? (i := 0) rfl))))))))
theorem LX10_enough_E_X2_caseCount : Cond.selects RX2 yX2_caseCount yX2_caseCount ∈ wsX10_enough := (List.mem_cons_of_mem _ (List.mem_append_left _ (List.mem_append_left _ (List.mem_append_left _ (List.mem_append_left _ (List.mem_append_left _ (List.mem_append_left _ (List.mem_of_getElem? (i := 4) rfl))))))))
theorem LX10_enough_E_X2_goesAtMost : Cond.selects RX2 yX2_goesAtMost yX2_goesAtMost ∈ wsX10_enough := (List.mem_cons_of_mem _ (List.mem_append_left _ (List.mem_append_left _ (List.mem_append_left _ (List.mem_append_left _ (List.mem_append_left _ (List.mem_append_left _ (List.mem_of_getElem? (i := 6) rfl))))))))
theorem LX10_enough_I_X2 : Cond.initialized RX2 ∈ wsX10_enough := (List.mem_cons_of_mem _ (List.mem_append_left _ (List.mem_append_left _ (List.mem_append_left _ (List.mem_append_left _ (List.mem_append_left _ (List.mem_append_left _ (List.mem_of_getElem? (i := 3) rfl))))))))
theorem LX10_enough_N_X2_caseCount : Cond.instanceMethod yX2_caseCount ∈ wsX10_enough := (List.mem_cons_of_mem _ (List.mem_append_left _ (List.mem_append_left _ (List.mem_append_left _ (List.mem_append_left _ (List.mem_append_left _ (List.mem_append_left _ (List.mem_of_getElem? (i := 2) rfl))))))))
theorem LX10_enough_N_X2_goesAtMost : Cond.instanceMethod yX2_goesAtMost ∈ wsX10_enough := (List.mem_cons_of_mem _ (List.mem_append_left _ (List.mem_append_left _ (List.mem_append_left _ (List.mem_append_left _ (List.mem_append_left _ (List.mem_append_left _ (List.mem_of_getElem? (i := 5) rfl))))))))
theorem inX10_enough_X10 : ∀ w ∈ u_ws RX10 TX10 9, w ∈ wsX10_enough := fun w h => (List.mem_cons_of_mem _ (List.mem_append_left _ (List.mem_append_left _ (List.mem_append_left _ (List.mem_append_left _ (List.mem_append_right _ h))))))
set_option maxHeartbeats 4000000 in
set_option maxRecDepth 100000 in
theorem bkX10_enough {l : Launch} {dC : Nat → ClassId} {dI : Nat → Nat → Nat} {cB cI cJ cZ cS : ClassId} {a b b2 c0 : Nat → Nat} {rg sl : Nat → Option Nat} {as : List Value} {r : Int32} {s' : XS} (s : XS) (hB : kX10_enough s = some (r, s')) : BlkI l yX10_enough wsX10_enough ({ frames := 3, cells := 0, slots := 0, locals := 67 }) cX10_enough 1 (some .int) (dC, dI) (tysA cB cI cJ cZ cS) as 0 (wX cB cI cJ cZ cS a b b2 c0 rg sl s) [(0, .ref (c0 0))] [] (fun x u => x = r ∧ u = (wX cB cI cJ cZ cS a b b2 c0 rg sl s')) := by
  intro p e s0 m below meth c A E H locs ls hP hD hS hl
  obtain ⟨C, hr, hlocks, hA, hK, hN⟩ := id E
  obtain ⟨hx, hb, hml, hown, hts⟩ := id C
  unfold kX10_enough at hB
  refine lv_aload_n hx hb dX10_enough_0 rfl (lv_at hl 0 rfl) ?_
  refine q_get (v := .ref (a 36)) C inX10_enough_X10 hK hP 0 rfl rfl 7 (by decide) rfl LX10_enough_63 rfl dX10_enough_1 ?_
  refine lv_aload_n hx hb dX10_enough_4 rfl (lv_at hl 0 rfl) ?_
  refine q_get (v := .ref (b 0)) C inX10_enough_X10 hK hP 0 rfl rfl 3 (by decide) rfl LX10_enough_35 rfl dX10_enough_5 ?_
  obtain ⟨q_, s1, hc, hB⟩ := bindI_inv hB
  refine q_goi (wr := ((wG cZ cS a b b2 c0 rg sl s.g) ++ (wD cI b2 s.t))) (va_runVN (As := [.ref (b 0)]) (rest := []) C (ckX2_caseCount hc _) ⟨va_cnB 1 hts gX10_enough_X2_caseCount_n196 rfl rfl rfl (hN _ nwM_X10_196 rfl) (hts _ LX10_enough_I_X2) (by decide +kernel) ⟨Nat.le_of_ble_eq_true rfl, Nat.le_of_ble_eq_true rfl⟩, hts _ LX10_enough_N_X2_caseCount, hts _ LX10_enough_E_X2_caseCount⟩ (q_preV hK hP (ci := 2) (q0 := 53) rfl rfl rfl (q_pre hN hK hP hD [11, 12, 13, 14, 15, 16, 17, 18, 19, 20, 21, 22, 23, 24, 25, 26, 27, 28, 29, 30, 31, 32, 33, 34, 35, 36, 37, 38, 39, 40, 41, 42, 43, 44, 45, 46, 47, 48, 49, 50, 51, 52, 53, 54, 55, 56, 57, 58, 59, 60, 61, 62, 63] (by first | exact zqs_2X | rfl) zqn_2)) rfl rfl hl.1 rfl (lv_room (Nat.le_of_ble_eq_true rfl)) dX10_enough_8 ⟨Nat.le_of_ble_eq_true rfl, Nat.le_of_ble_eq_true rfl⟩) hP hD hS hA [11, 12, 13, 14, 15, 16, 17, 18, 19, 20, 21, 22, 23, 24, 25, 26, 27, 28, 29, 30, 31, 32, 33, 34, 35, 36, 37, 38, 39, 40, 41, 42, 43, 44, 45, 46, 47, 48, 49, 50, 51, 52, 53, 54, 55, 56, 57, 58, 59, 60, 61, 62, 63] [0, 1, 2, 3, 4, 5, 6, 7, 8, 9, 10] (by first | exact zqs_2X | rfl) (by first | exact zqs_3X | rfl) zqn_3 zqd_1 (fun r2 w1 H locs hw hP hD hS => ?_)
  obtain ⟨hq_, hw⟩ := hw; subst hw; subst hq_
  obtain ⟨s3, hs4, hB⟩ := letS_inv hB
  have hP : va_P (dC, dI) vwCl (wX cB cI cJ cZ cS a b b2 c0 rg sl s3) H := by subst hs4; exact hP
  have hD : va_D A (wX cB cI cJ cZ cS a b b2 c0 rg sl s3) := by subst hs4; exact hD
  refine lv_if_ne (tgt := 19) hx hb dX10_enough_11 (by decide) (fun c5 => ?_) (fun c5 => ?_)
  · have hB := if_n hB c5
    refine lv_aload_n hx hb dX10_enough_19 rfl (lv_at hl 0 rfl) ?_
    refine q_get (v := .ref (a 36)) C inX10_enough_X10 hK hP 0 rfl rfl 7 (by decide) rfl LX10_enough_63 rfl dX10_enough_20 ?_
    refine lv_aload_n hx hb dX10_enough_23 rfl (lv_at hl 0 rfl) ?_
    refine q_get (v := .ref (b 0)) C inX10_enough_X10 hK hP 0 rfl rfl 3 (by decide) rfl LX10_enough_35 rfl dX10_enough_24 ?_
    obtain ⟨q_, s6, hc, hB⟩ := bindI_inv hB
    refine q_goi (wr := ((wG cZ cS a b b2 c0 rg sl s3.g) ++ (wD cI b2 s3.t))) (va_runVN (As := [.ref (b 0)]) (rest := []) C (ckX2_goesAtMost hc _) ⟨va_cnB 1 hts gX10_enough_X2_goesAtMost_n212 rfl rfl rfl (hN _ nwM_X10_212 rfl) (hts _ LX10_enough_I_X2) (by decide +kernel) ⟨Nat.le_of_ble_eq_true rfl, Nat.le_of_ble_eq_true rfl⟩, hts _ LX10_enough_N_X2_goesAtMost, hts _ LX10_enough_E_X2_goesAtMost⟩ (q_preV hK hP (ci := 2) (q0 := 53) rfl rfl rfl (q_pre hN hK hP hD [11, 12, 13, 14, 15, 16, 17, 18, 19, 20, 21, 22, 23, 24, 25, 26, 27, 28, 29, 30, 31, 32, 33, 34, 35, 36, 37, 38, 39, 40, 41, 42, 43, 44, 45, 46, 47, 48, 49, 50, 51, 52, 53, 54, 55, 56, 57, 58, 59, 60, 61, 62, 63] (by first | exact zqs_2X | rfl) zqn_2)) rfl rfl hl.1 rfl (lv_room (Nat.le_of_ble_eq_true rfl)) dX10_enough_27 ⟨Nat.le_of_ble_eq_true rfl, Nat.le_of_ble_eq_true rfl⟩) hP hD hS hA [11, 12, 13, 14, 15, 16, 17, 18, 19, 20, 21, 22, 23, 24, 25, 26, 27, 28, 29, 30, 31, 32, 33, 34, 35, 36, 37, 38, 39, 40, 41, 42, 43, 44, 45, 46, 47, 48, 49, 50, 51, 52, 53, 54, 55, 56, 57, 58, 59, 60, 61, 62, 63] [0, 1, 2, 3, 4, 5, 6, 7, 8, 9, 10] (by first | exact zqs_2X | rfl) (by first | exact zqs_3X | rfl) zqn_3 zqd_1 (fun r7 w1 H locs hw hP hD hS => ?_)
    obtain ⟨hq_, hw⟩ := hw; subst hw; subst hq_
    obtain ⟨s8, hs9, hB⟩ := letS_inv hB
    have hP : va_P (dC, dI) vwCl (wX cB cI cJ cZ cS a b b2 c0 rg sl s8) H := by subst hs9; exact hP
    have hD : va_D A (wX cB cI cJ cZ cS a b b2 c0 rg sl s8) := by subst hs9; exact hD
    exact q_iret C hr hlocks hK hP hD hS (Nat.le_of_ble_eq_true rfl) (Nat.le_of_ble_eq_true rfl) dX10_enough_30 (by cases hB; exact ⟨rfl, rfl⟩)
  · have hB := if_p hB c5
    refine lv_bipush (v := (-2)) hx hb dX10_enough_14 (by decide) ?_
    refine lv_goto (tgt := 30) hx hb dX10_enough_16 (by decide) ?_
    exact q_iret C hr hlocks hK hP hD hS (Nat.le_of_ble_eq_true rfl) (Nat.le_of_ble_eq_true rfl) dX10_enough_30 (by cases hB; exact ⟨rfl, rfl⟩)
theorem ckX10_enough {l : Launch} {dC : Nat → ClassId} {dI : Nat → Nat → Nat} {cB cI cJ cZ cS : ClassId} {a b b2 c0 : Nat → Nat} {rg sl : Nat → Option Nat} {r : Int32} {s' : XS} {s : XS} (hB : kX10_enough s = some (r, s')) : CI l yX10_enough wsX10_enough ({ frames := 3, cells := 0, slots := 0, locals := 67 }) (dC, dI) (tysA cB cI cJ cZ cS) (wX cB cI cJ cZ cS a b b2 c0 rg sl s) [.ref (c0 0)] (fun x u => x = r ∧ u = (wX cB cI cJ cZ cS a b b2 c0 rg sl s')) :=
  CI_of (cc := cX10_enough) (maxL := 1) (ret := (some .int)) (by decide) rfl (Nat.le_of_ble_eq_true rfl) (bkX10_enough _ hB)
theorem LX10_left_19 : Cond.fieldLink RX10 19 "GuessFerry" "sound" "LGuessFerry$Sound;" ∈ wsX10_left := (List.mem_cons_of_mem _ (List.mem_append_left _ (List.mem_append_left _ (List.mem_append_left _ (List.mem_append_left _ (List.mem_append_left _ (List.mem_append_left _ (List.mem_of_getElem? (i := 0) rfl))))))))
theorem LX10_left_35 : Cond.fieldLink RX10 35 "GuessFerry" "now" "LGuessFerry$Standing;" ∈ wsX10_left := (List.mem_cons_of_mem _ (List.mem_append_left _ (List.mem_append_left _ (List.mem_append_left _ (List.mem_append_left _ (List.mem_append_left _ (List.mem_append_left _ (List.mem_of_getElem? (i := 2) rfl))))))))
theorem LX10_left_63 : Cond.fieldLink RX10 63 "GuessFerry" "outlook" "LGuessFerry$Outlook;" ∈ wsX10_left := (List.mem_cons_of_mem _ (List.mem_append_left _ (List.mem_append_left _ (List.mem_append_left _ (List.mem_append_left _ (List.mem_append_left _ (List.mem_append_left _ (List.mem_of_getElem? (i := 1) rfl))))))))
theorem LX10_left_E_X2_caseCount : Cond.selects RX2 yX2_caseCount yX2_caseCount ∈ wsX10_left := (List.mem_cons_of_mem _ (List.mem_append_left _ (List.mem_append_left _ (List.mem_append_left _ (List.mem_append_left _ (List.mem_append_left _ (List.mem_append_left _ (List.mem_of_getElem? (i := 8) rfl))))))))
theorem LX10_left_E_X2_leftBehind : Cond.selects RX2 yX2_leftBehind yX2_leftBehind ∈ wsX10_left := (List.mem_cons_of_mem _ (List.mem_append_left _ (List.mem_append_left _ (List.mem_append_left _ (List.mem_append_left _ (List.mem_append_left _ (List.mem_append_left _ (List.mem_of_getElem? (i := 10) rfl))))))))
theorem LX10_left_E_X5_hasGuess : Cond.selects RX5 yX5_hasGuess yX5_hasGuess ∈ wsX10_left := (List.mem_cons_of_mem _ (List.mem_append_left _ (List.mem_append_left _ (List.mem_append_left _ (List.mem_append_left _ (List.mem_append_left _ (List.mem_append_left _ (List.mem_of_getElem? (i := 5) rfl))))))))
theorem LX10_left_I_X2 : Cond.initialized RX2 ∈ wsX10_left := (List.mem_cons_of_mem _ (List.mem_append_left _ (List.mem_append_left _ (List.mem_append_left _ (List.mem_append_left _ (List.mem_append_left _ (List.mem_append_left _ (List.mem_of_getElem? (i := 7) rfl))))))))
theorem LX10_left_I_X5 : Cond.initialized RX5 ∈ wsX10_left := (List.mem_cons_of_mem _ (List.mem_append_left _ (List.mem_append_left _ (List.mem_append_left _ (List.mem_append_left _ (List.mem_append_left _ (List.mem_append_left _ (List.mem_of_getElem? (i := 4) rfl))))))))
theorem LX10_left_N_X2_caseCount : Cond.instanceMethod yX2_caseCount ∈ wsX10_left := (List.mem_cons_of_mem _ (List.mem_append_left _ (List.mem_append_left _ (List.mem_append_left _ (List.mem_append_left _ (List.mem_append_left _ (List.mem_append_left _ (List.mem_of_getElem? (i := 6) rfl))))))))
theorem LX10_left_N_X2_leftBehind : Cond.instanceMethod yX2_leftBehind ∈ wsX10_left := (List.mem_cons_of_mem _ (List.mem_append_left _ (List.mem_append_left _ (List.mem_append_left _ (List.mem_append_left _ (List.mem_append_left _ (List.mem_append_left _ (List.mem_of_getElem? (i := 9) rfl))))))))
theorem LX10_left_N_X5_hasGuess : Cond.instanceMethod yX5_hasGuess ∈ wsX10_left := (List.mem_cons_of_mem _ (List.mem_append_left _ (List.mem_append_left _ (List.mem_append_left _ (List.mem_append_left _ (List.mem_append_left _ (List.mem_append_left _ (List.mem_of_getElem? (i := 3) rfl))))))))
theorem inX10_left_X10 : ∀ w ∈ u_ws RX10 TX10 9, w ∈ wsX10_left := fun w h => (List.mem_cons_of_mem _ (List.mem_append_left _ (List.mem_append_left _ (List.mem_append_left _ (List.mem_append_left _ (List.mem_append_right _ h))))))
set_option maxHeartbeats 4000000 in
set_option maxRecDepth 100000 in
theorem bkX10_left {l : Launch} {dC : Nat → ClassId} {dI : Nat → Nat → Nat} {cB cI cJ cZ cS : ClassId} {a b b2 c0 : Nat → Nat} {rg sl : Nat → Option Nat} {as : List Value} {r : Int32} {s' : XS} (s : XS) (x1 : Int32) (hB : kX10_left s x1 = some (r, s')) : BlkI l yX10_left wsX10_left ({ frames := 3, cells := 0, slots := 0, locals := 70 }) cX10_left 2 (some .int) (dC, dI) (tysA cB cI cJ cZ cS) as 0 (wX cB cI cJ cZ cS a b b2 c0 rg sl s) [(0, .ref (c0 0)), (1, .int x1)] [] (fun x u => x = r ∧ u = (wX cB cI cJ cZ cS a b b2 c0 rg sl s')) := by
  intro p e s0 m below meth c A E H locs ls hP hD hS hl
  obtain ⟨C, hr, hlocks, hA, hK, hN⟩ := id E
  obtain ⟨hx, hb, hml, hown, hts⟩ := id C
  unfold kX10_left at hB
  refine lv_aload_n hx hb dX10_left_0 rfl (lv_at hl 0 rfl) ?_
  refine q_get (v := .ref (a 2)) C inX10_left_X10 hK hP 0 rfl rfl 1 (by decide) rfl LX10_left_19 rfl dX10_left_1 ?_
  refine lv_iload_n hx hb dX10_left_4 rfl (lv_at hl 1 rfl) ?_
  obtain ⟨q_, s1, hc, hB⟩ := bindI_inv hB
  refine q_goi (wr := ((wG cZ cS a b b2 c0 rg sl s.g) ++ (wD cI b2 s.t) ++ (wD cI b s.n))) (va_runVN (As := [.int x1]) (rest := []) C (ckX5_hasGuess hc _) ⟨va_cnB 1 hts gX10_left_X5_hasGuess_n170 rfl rfl rfl (hN _ nwM_X10_170 rfl) (hts _ LX10_left_I_X5) (by decide +kernel) ⟨Nat.le_of_ble_eq_true rfl, Nat.le_of_ble_eq_true rfl⟩, hts _ LX10_left_N_X5_hasGuess, hts _ LX10_left_E_X5_hasGuess⟩ (q_preV hK hP (ci := 5) (q0 := 19) rfl rfl rfl (q_pre hN hK hP hD [17, 18, 19, 20, 21, 22, 23, 24, 25, 26, 27, 28, 29, 30, 31, 32, 33, 34, 35, 36, 37, 38, 39, 40, 41, 42, 43, 44, 45, 46, 47, 48, 49, 50, 51, 52, 53, 54, 55, 56, 57, 58, 59, 60, 61, 62, 63] (by first | exact zqs_0X | rfl) zqn_0)) rfl rfl hl.1 rfl (lv_room (Nat.le_of_ble_eq_true rfl)) dX10_left_5 ⟨Nat.le_of_ble_eq_true rfl, Nat.le_of_ble_eq_true rfl⟩) hP hD hS hA [17, 18, 19, 20, 21, 22, 23, 24, 25, 26, 27, 28, 29, 30, 31, 32, 33, 34, 35, 36, 37, 38, 39, 40, 41, 42, 43, 44, 45, 46, 47, 48, 49, 50, 51, 52, 53, 54, 55, 56, 57, 58, 59, 60, 61, 62, 63] [0, 1, 2, 3, 4, 5, 6, 7, 8, 9, 10, 11, 12, 13, 14, 15, 16] (by first | exact zqs_0X | rfl) (by first | exact zqs_1X | rfl) zqn_1 zqd_0 (fun r2 w1 H locs hw hP hD hS => ?_)
  obtain ⟨hq_, hw⟩ := hw; subst hw; subst hq_
  obtain ⟨s3, hs4, hB⟩ := letS_inv hB
  have hP : va_P (dC, dI) vwCl (wX cB cI cJ cZ cS a b b2 c0 rg sl s3) H := by subst hs4; exact hP
  have hD : va_D A (wX cB cI cJ cZ cS a b b2 c0 rg sl s3) := by subst hs4; exact hD
  refine lv_if_ne (tgt := 13) hx hb dX10_left_8 (by decide) (fun c5 => ?_) (fun c5 => ?_)
  · have hB := if_n hB c5
    refine lv_aload_n hx hb dX10_left_13 rfl (lv_at hl 0 rfl) ?_
    refine q_get (v := .ref (a 36)) C inX10_left_X10 hK hP 0 rfl rfl 7 (by decide) rfl LX10_left_63 rfl dX10_left_14 ?_
    refine lv_aload_n hx hb dX10_left_17 rfl (lv_at hl 0 rfl) ?_
    refine q_get (v := .ref (b 0)) C inX10_left_X10 hK hP 0 rfl rfl 3 (by decide) rfl LX10_left_35 rfl dX10_left_18 ?_
    obtain ⟨q_, s6, hc, hB⟩ := bindI_inv hB
    refine q_goi (wr := ((wG cZ cS a b b2 c0 rg sl s3.g) ++ (wD cI b2 s3.t))) (va_runVN (As := [.ref (b 0)]) (rest := []) C (ckX2_caseCount hc _) ⟨va_cnB 1 hts gX10_left_X2_caseCount_n196 rfl rfl rfl (hN _ nwM_X10_196 rfl) (hts _ LX10_left_I_X2) (by decide +kernel) ⟨Nat.le_of_ble_eq_true rfl, Nat.le_of_ble_eq_true rfl⟩, hts _ LX10_left_N_X2_caseCount, hts _ LX10_left_E_X2_caseCount⟩ (q_preV hK hP (ci := 2) (q0 := 53) rfl rfl rfl (q_pre hN hK hP hD [11, 12, 13, 14, 15, 16, 17, 18, 19, 20, 21, 22, 23, 24, 25, 26, 27, 28, 29, 30, 31, 32, 33, 34, 35, 36, 37, 38, 39, 40, 41, 42, 43, 44, 45, 46, 47, 48, 49, 50, 51, 52, 53, 54, 55, 56, 57, 58, 59, 60, 61, 62, 63] (by first | exact zqs_2X | rfl) zqn_2)) rfl rfl hl.1 rfl (lv_room (Nat.le_of_ble_eq_true rfl)) dX10_left_21 ⟨Nat.le_of_ble_eq_true rfl, Nat.le_of_ble_eq_true rfl⟩) hP hD hS hA [11, 12, 13, 14, 15, 16, 17, 18, 19, 20, 21, 22, 23, 24, 25, 26, 27, 28, 29, 30, 31, 32, 33, 34, 35, 36, 37, 38, 39, 40, 41, 42, 43, 44, 45, 46, 47, 48, 49, 50, 51, 52, 53, 54, 55, 56, 57, 58, 59, 60, 61, 62, 63] [0, 1, 2, 3, 4, 5, 6, 7, 8, 9, 10] (by first | exact zqs_2X | rfl) (by first | exact zqs_3X | rfl) zqn_3 zqd_1 (fun r7 w1 H locs hw hP hD hS => ?_)
    obtain ⟨hq_, hw⟩ := hw; subst hw; subst hq_
    obtain ⟨s8, hs9, hB⟩ := letS_inv hB
    have hP : va_P (dC, dI) vwCl (wX cB cI cJ cZ cS a b b2 c0 rg sl s8) H := by subst hs9; exact hP
    have hD : va_D A (wX cB cI cJ cZ cS a b b2 c0 rg sl s8) := by subst hs9; exact hD
    refine lv_if_ne (tgt := 32) hx hb dX10_left_24 (by decide) (fun c10 => ?_) (fun c10 => ?_)
    · have hB := if_n hB c10
      refine lv_aload_n hx hb dX10_left_32 rfl (lv_at hl 0 rfl) ?_
      refine q_get (v := .ref (a 36)) C inX10_left_X10 hK hP 0 rfl rfl 7 (by decide) rfl LX10_left_63 rfl dX10_left_33 ?_
      refine lv_aload_n hx hb dX10_left_36 rfl (lv_at hl 0 rfl) ?_
      refine q_get (v := .ref (b 0)) C inX10_left_X10 hK hP 0 rfl rfl 3 (by decide) rfl LX10_left_35 rfl dX10_left_37 ?_
      refine lv_iload_n hx hb dX10_left_40 rfl (lv_at hl 1 rfl) ?_
      obtain ⟨q_, s11, hc, hB⟩ := bindI_inv hB
      refine q_goi (wr := ((wG cZ cS a b b2 c0 rg sl s8.g) ++ (wD cI b2 s8.t))) (va_runVN (As := [.ref (b 0), .int x1]) (rest := []) C (ckX2_leftBehind hc _) ⟨va_cnB 2 hts gX10_left_X2_leftBehind_n215 rfl rfl rfl (hN _ nwM_X10_215 rfl) (hts _ LX10_left_I_X2) (by decide +kernel) ⟨Nat.le_of_ble_eq_true rfl, Nat.le_of_ble_eq_true rfl⟩, hts _ LX10_left_N_X2_leftBehind, hts _ LX10_left_E_X2_leftBehind⟩ (q_preV hK hP (ci := 2) (q0 := 53) rfl rfl rfl (q_pre hN hK hP hD [11, 12, 13, 14, 15, 16, 17, 18, 19, 20, 21, 22, 23, 24, 25, 26, 27, 28, 29, 30, 31, 32, 33, 34, 35, 36, 37, 38, 39, 40, 41, 42, 43, 44, 45, 46, 47, 48, 49, 50, 51, 52, 53, 54, 55, 56, 57, 58, 59, 60, 61, 62, 63] (by first | exact zqs_2X | rfl) zqn_2)) rfl rfl hl.1 rfl (lv_room (Nat.le_of_ble_eq_true rfl)) dX10_left_41 ⟨Nat.le_of_ble_eq_true rfl, Nat.le_of_ble_eq_true rfl⟩) hP hD hS hA [11, 12, 13, 14, 15, 16, 17, 18, 19, 20, 21, 22, 23, 24, 25, 26, 27, 28, 29, 30, 31, 32, 33, 34, 35, 36, 37, 38, 39, 40, 41, 42, 43, 44, 45, 46, 47, 48, 49, 50, 51, 52, 53, 54, 55, 56, 57, 58, 59, 60, 61, 62, 63] [0, 1, 2, 3, 4, 5, 6, 7, 8, 9, 10] (by first | exact zqs_2X | rfl) (by first | exact zqs_3X | rfl) zqn_3 zqd_1 (fun r12 w1 H locs hw hP hD hS => ?_)
      obtain ⟨hq_, hw⟩ := hw; subst hw; subst hq_
      obtain ⟨s13, hs14, hB⟩ := letS_inv hB
      have hP : va_P (dC, dI) vwCl (wX cB cI cJ cZ cS a b b2 c0 rg sl s13) H := by subst hs14; exact hP
      have hD : va_D A (wX cB cI cJ cZ cS a b b2 c0 rg sl s13) := by subst hs14; exact hD
      exact q_iret C hr hlocks hK hP hD hS (Nat.le_of_ble_eq_true rfl) (Nat.le_of_ble_eq_true rfl) dX10_left_44 (by cases hB; exact ⟨rfl, rfl⟩)
    · have hB := if_p hB c10
      refine lv_bipush (v := (-2)) hx hb dX10_left_27 (by decide) ?_
      refine lv_goto (tgt := 44) hx hb dX10_left_29 (by decide) ?_
      exact q_iret C hr hlocks hK hP hD hS (Nat.le_of_ble_eq_true rfl) (Nat.le_of_ble_eq_true rfl) dX10_left_44 (by cases hB; exact ⟨rfl, rfl⟩)
  · have hB := if_p hB c5
    refine lv_iconst (v := (-1)) hx hb dX10_left_11 (by decide) ?_
    exact q_iret C hr hlocks hK hP hD hS (Nat.le_of_ble_eq_true rfl) (Nat.le_of_ble_eq_true rfl) dX10_left_12 (by cases hB; exact ⟨rfl, rfl⟩)
theorem ckX10_left {l : Launch} {dC : Nat → ClassId} {dI : Nat → Nat → Nat} {cB cI cJ cZ cS : ClassId} {a b b2 c0 : Nat → Nat} {rg sl : Nat → Option Nat} {r : Int32} {s' : XS} {s : XS} {x1 : Int32} (hB : kX10_left s x1 = some (r, s')) : CI l yX10_left wsX10_left ({ frames := 3, cells := 0, slots := 0, locals := 70 }) (dC, dI) (tysA cB cI cJ cZ cS) (wX cB cI cJ cZ cS a b b2 c0 rg sl s) [.ref (c0 0), .int x1] (fun x u => x = r ∧ u = (wX cB cI cJ cZ cS a b b2 c0 rg sl s')) :=
  CI_of (cc := cX10_left) (maxL := 2) (ret := (some .int)) (by decide) rfl (Nat.le_of_ble_eq_true rfl) (bkX10_left _ _ hB)
theorem LX10_wisest_35 : Cond.fieldLink RX10 35 "GuessFerry" "now" "LGuessFerry$Standing;" ∈ wsX10_wisest := (List.mem_cons_of_mem _ (List.mem_append_left _ (List.mem_append_left _ (List.mem_append_left _ (List.mem_append_left _ (List.mem_append_left _ (List.mem_append_left _ (List.mem_of_getElem? (i := 1) rfl))))))))
theorem LX10_wisest_63 : Cond.fieldLink RX10 63 "GuessFerry" "outlook" "LGuessFerry$Outlook;" ∈ wsX10_wisest := (List.mem_cons_of_mem _ (List.mem_append_left _ (List.mem_append_left _ (List.mem_append_left _ (List.mem_append_left _ (List.mem_append_left _ (List.mem_append_left _ (List.mem_of_getElem? (i := 0) rfl))))))))
theorem LX10_wisest_E_X2_caseCount : Cond.selects RX2 yX2_caseCount yX2_caseCount ∈ wsX10_wisest := (List.mem_cons_of_mem _ (List.mem_append_left _ (List.mem_append_left _ (List.mem_append_left _ (List.mem_append_left _ (List.mem_append_left _ (List.mem_append_left _ (List.mem_of_getElem? (i := 4) rfl))))))))
theorem LX10_wisest_E_X2_leftBehind : Cond.selects RX2 yX2_leftBehind yX2_leftBehind ∈ wsX10_wisest := (List.mem_cons_of_mem _ (List.mem_append_left _ (List.mem_append_left _ (List.mem_append_left _ (List.mem_append_left _ (List.mem_append_left _ (List.mem_append_left _ (List.mem_of_getElem? (i := 8) rfl))))))))
theorem LX10_wisest_E_X2_wisestGuess : Cond.selects RX2 yX2_wisestGuess yX2_wisestGuess ∈ wsX10_wisest := (List.mem_cons_of_mem _ (List.mem_append_left _ (List.mem_append_left _ (List.mem_append_left _ (List.mem_append_left _ (List.mem_append_left _ (List.mem_append_left _ (List.mem_of_getElem? (i := 6) rfl))))))))
theorem LX10_wisest_I_X2 : Cond.initialized RX2 ∈ wsX10_wisest := (List.mem_cons_of_mem _ (List.mem_append_left _ (List.mem_append_left _ (List.mem_append_left _ (List.mem_append_left _ (List.mem_append_left _ (List.mem_append_left _ (List.mem_of_getElem? (i := 3) rfl))))))))
theorem LX10_wisest_N_X2_caseCount : Cond.instanceMethod yX2_caseCount ∈ wsX10_wisest := (List.mem_cons_of_mem _ (List.mem_append_left _ (List.mem_append_left _ (List.mem_append_left _ (List.mem_append_left _ (List.mem_append_left _ (List.mem_append_left _ (List.mem_of_getElem? (i := 2) rfl))))))))
theorem LX10_wisest_N_X2_leftBehind : Cond.instanceMethod yX2_leftBehind ∈ wsX10_wisest := (List.mem_cons_of_mem _ (List.mem_append_left _ (List.mem_append_left _ (List.mem_append_left _ (List.mem_append_left _ (List.mem_append_left _ (List.mem_append_left _ (List.mem_of_getElem? (i := 7) rfl))))))))
theorem LX10_wisest_N_X2_wisestGuess : Cond.instanceMethod yX2_wisestGuess ∈ wsX10_wisest := (List.mem_cons_of_mem _ (List.mem_append_left _ (List.mem_append_left _ (List.mem_append_left _ (List.mem_append_left _ (List.mem_append_left _ (List.mem_append_left _ (List.mem_of_getElem? (i := 5) rfl))))))))
theorem inX10_wisest_X10 : ∀ w ∈ u_ws RX10 TX10 9, w ∈ wsX10_wisest := fun w h => (List.mem_cons_of_mem _ (List.mem_append_left _ (List.mem_append_left _ (List.mem_append_left _ (List.mem_append_left _ (List.mem_append_right _ h))))))
set_option maxHeartbeats 4000000 in
set_option maxRecDepth 100000 in
theorem bkX10_wisest_11 {l : Launch} {dC : Nat → ClassId} {dI : Nat → Nat → Nat} {cB cI cJ cZ cS : ClassId} {a b b2 c0 : Nat → Nat} {rg sl : Nat → Option Nat} {as : List Value} {r : Int32} {s' : XS} (s : XS) (x1 : Int32) (hB : kX10_wisest_11 s x1 = some (r, s')) : BlkI l yX10_wisest wsX10_wisest ({ frames := 3, cells := 0, slots := 0, locals := 70 }) cX10_wisest 3 (some .int) (dC, dI) (tysA cB cI cJ cZ cS) as 11 (wX cB cI cJ cZ cS a b b2 c0 rg sl s) [(0, .ref (c0 0)), (1, .int x1)] [] (fun x u => x = r ∧ u = (wX cB cI cJ cZ cS a b b2 c0 rg sl s')) := by
  intro p e s0 m below meth c A E H locs ls hP hD hS hl
  obtain ⟨C, hr, hlocks, hA, hK, hN⟩ := id E
  obtain ⟨hx, hb, hml, hown, hts⟩ := id C
  unfold kX10_wisest_11 at hB
  refine lv_aload_n hx hb dX10_wisest_11 rfl (lv_at hl 0 rfl) ?_
  refine q_get (v := .ref (a 36)) C inX10_wisest_X10 hK hP 0 rfl rfl 7 (by decide) rfl LX10_wisest_63 rfl dX10_wisest_12 ?_
  refine lv_aload_n hx hb dX10_wisest_15 rfl (lv_at hl 0 rfl) ?_
  refine q_get (v := .ref (b 0)) C inX10_wisest_X10 hK hP 0 rfl rfl 3 (by decide) rfl LX10_wisest_35 rfl dX10_wisest_16 ?_
  obtain ⟨q_, s1, hc, hB⟩ := bindI_inv hB
  refine q_goi (wr := ((wG cZ cS a b b2 c0 rg sl s.g) ++ (wD cI b2 s.t))) (va_runVN (As := [.ref (b 0)]) (rest := []) C (ckX2_caseCount hc _) ⟨va_cnB 1 hts gX10_wisest_X2_caseCount_n196 rfl rfl rfl (hN _ nwM_X10_196 rfl) (hts _ LX10_wisest_I_X2) (by decide +kernel) ⟨Nat.le_of_ble_eq_true rfl, Nat.le_of_ble_eq_true rfl⟩, hts _ LX10_wisest_N_X2_caseCount, hts _ LX10_wisest_E_X2_caseCount⟩ (q_preV hK hP (ci := 2) (q0 := 53) rfl rfl rfl (q_pre hN hK hP hD [11, 12, 13, 14, 15, 16, 17, 18, 19, 20, 21, 22, 23, 24, 25, 26, 27, 28, 29, 30, 31, 32, 33, 34, 35, 36, 37, 38, 39, 40, 41, 42, 43, 44, 45, 46, 47, 48, 49, 50, 51, 52, 53, 54, 55, 56, 57, 58, 59, 60, 61, 62, 63] (by first | exact zqs_2X | rfl) zqn_2)) rfl rfl hl.1 rfl (lv_room (Nat.le_of_ble_eq_true rfl)) dX10_wisest_19 ⟨Nat.le_of_ble_eq_true rfl, Nat.le_of_ble_eq_true rfl⟩) hP hD hS hA [11, 12, 13, 14, 15, 16, 17, 18, 19, 20, 21, 22, 23, 24, 25, 26, 27, 28, 29, 30, 31, 32, 33, 34, 35, 36, 37, 38, 39, 40, 41, 42, 43, 44, 45, 46, 47, 48, 49, 50, 51, 52, 53, 54, 55, 56, 57, 58, 59, 60, 61, 62, 63] [0, 1, 2, 3, 4, 5, 6, 7, 8, 9, 10] (by first | exact zqs_2X | rfl) (by first | exact zqs_3X | rfl) zqn_3 zqd_1 (fun r2 w1 H locs hw hP hD hS => ?_)
  obtain ⟨hq_, hw⟩ := hw; subst hw; subst hq_
  obtain ⟨s3, hs4, hB⟩ := letS_inv hB
  have hP : va_P (dC, dI) vwCl (wX cB cI cJ cZ cS a b b2 c0 rg sl s3) H := by subst hs4; exact hP
  have hD : va_D A (wX cB cI cJ cZ cS a b b2 c0 rg sl s3) := by subst hs4; exact hD
  refine lv_if_ne (tgt := 28) hx hb dX10_wisest_22 (by decide) (fun c5 => ?_) (fun c5 => ?_)
  · have hB := if_n hB c5
    refine lv_aload_n hx hb dX10_wisest_28 rfl (lv_at hl 0 rfl) ?_
    refine q_get (v := .ref (a 36)) C inX10_wisest_X10 hK hP 0 rfl rfl 7 (by decide) rfl LX10_wisest_63 rfl dX10_wisest_29 ?_
    refine lv_aload_n hx hb dX10_wisest_32 rfl (lv_at hl 0 rfl) ?_
    refine q_get (v := .ref (b 0)) C inX10_wisest_X10 hK hP 0 rfl rfl 3 (by decide) rfl LX10_wisest_35 rfl dX10_wisest_33 ?_
    obtain ⟨q_, s6, hc, hB⟩ := bindI_inv hB
    refine q_goi (wr := ((wG cZ cS a b b2 c0 rg sl s3.g) ++ (wD cI b2 s3.t))) (va_runVN (As := [.ref (b 0)]) (rest := []) C (ckX2_wisestGuess hc _) ⟨va_cnB 1 hts gX10_wisest_X2_wisestGuess_n218 rfl rfl rfl (hN _ nwM_X10_218 rfl) (hts _ LX10_wisest_I_X2) (by decide +kernel) ⟨Nat.le_of_ble_eq_true rfl, Nat.le_of_ble_eq_true rfl⟩, hts _ LX10_wisest_N_X2_wisestGuess, hts _ LX10_wisest_E_X2_wisestGuess⟩ (q_preV hK hP (ci := 2) (q0 := 53) rfl rfl rfl (q_pre hN hK hP hD [11, 12, 13, 14, 15, 16, 17, 18, 19, 20, 21, 22, 23, 24, 25, 26, 27, 28, 29, 30, 31, 32, 33, 34, 35, 36, 37, 38, 39, 40, 41, 42, 43, 44, 45, 46, 47, 48, 49, 50, 51, 52, 53, 54, 55, 56, 57, 58, 59, 60, 61, 62, 63] (by first | exact zqs_2X | rfl) zqn_2)) rfl rfl hl.1 rfl (lv_room (Nat.le_of_ble_eq_true rfl)) dX10_wisest_36 ⟨Nat.le_of_ble_eq_true rfl, Nat.le_of_ble_eq_true rfl⟩) hP hD hS hA [11, 12, 13, 14, 15, 16, 17, 18, 19, 20, 21, 22, 23, 24, 25, 26, 27, 28, 29, 30, 31, 32, 33, 34, 35, 36, 37, 38, 39, 40, 41, 42, 43, 44, 45, 46, 47, 48, 49, 50, 51, 52, 53, 54, 55, 56, 57, 58, 59, 60, 61, 62, 63] [0, 1, 2, 3, 4, 5, 6, 7, 8, 9, 10] (by first | exact zqs_2X | rfl) (by first | exact zqs_3X | rfl) zqn_3 zqd_1 (fun r7 w1 H locs hw hP hD hS => ?_)
    obtain ⟨hq_, hw⟩ := hw; subst hw; subst hq_
    obtain ⟨s8, hs9, hB⟩ := letS_inv hB
    have hP : va_P (dC, dI) vwCl (wX cB cI cJ cZ cS a b b2 c0 rg sl s8) H := by subst hs9; exact hP
    have hD : va_D A (wX cB cI cJ cZ cS a b b2 c0 rg sl s8) := by subst hs9; exact hD
    refine lv_istore_n (lv' := [(2, .int r7), (0, .ref (c0 0)), (1, .int x1)]) hx hb dX10_wisest_39 rfl hl (by decide) rfl (fun ls hl => ?_)
    refine lv_iload_n hx hb dX10_wisest_40 rfl (lv_at hl 2 rfl) ?_
    refine lv_if_ne (tgt := 48) hx hb dX10_wisest_41 (by decide) (fun c10 => ?_) (fun c10 => ?_)
    · have hB := if_n hB c10
      refine lv_aload_n hx hb dX10_wisest_48 rfl (lv_at hl 1 rfl) ?_
      refine q_get (v := .ref (a 36)) C inX10_wisest_X10 hK hP 0 rfl rfl 7 (by decide) rfl LX10_wisest_63 rfl dX10_wisest_49 ?_
      refine lv_aload_n hx hb dX10_wisest_52 rfl (lv_at hl 1 rfl) ?_
      refine q_get (v := .ref (b 0)) C inX10_wisest_X10 hK hP 0 rfl rfl 3 (by decide) rfl LX10_wisest_35 rfl dX10_wisest_53 ?_
      refine lv_iload_n hx hb dX10_wisest_56 rfl (lv_at hl 0 rfl) ?_
      obtain ⟨q_, s11, hc, hB⟩ := bindI_inv hB
      refine q_goi (wr := ((wG cZ cS a b b2 c0 rg sl s8.g) ++ (wD cI b2 s8.t))) (va_runVN (As := [.ref (b 0), .int r7]) (rest := []) C (ckX2_leftBehind hc _) ⟨va_cnB 2 hts gX10_wisest_X2_leftBehind_n215 rfl rfl rfl (hN _ nwM_X10_215 rfl) (hts _ LX10_wisest_I_X2) (by decide +kernel) ⟨Nat.le_of_ble_eq_true rfl, Nat.le_of_ble_eq_true rfl⟩, hts _ LX10_wisest_N_X2_leftBehind, hts _ LX10_wisest_E_X2_leftBehind⟩ (q_preV hK hP (ci := 2) (q0 := 53) rfl rfl rfl (q_pre hN hK hP hD [11, 12, 13, 14, 15, 16, 17, 18, 19, 20, 21, 22, 23, 24, 25, 26, 27, 28, 29, 30, 31, 32, 33, 34, 35, 36, 37, 38, 39, 40, 41, 42, 43, 44, 45, 46, 47, 48, 49, 50, 51, 52, 53, 54, 55, 56, 57, 58, 59, 60, 61, 62, 63] (by first | exact zqs_2X | rfl) zqn_2)) rfl rfl hl.1 rfl (lv_room (Nat.le_of_ble_eq_true rfl)) dX10_wisest_57 ⟨Nat.le_of_ble_eq_true rfl, Nat.le_of_ble_eq_true rfl⟩) hP hD hS hA [11, 12, 13, 14, 15, 16, 17, 18, 19, 20, 21, 22, 23, 24, 25, 26, 27, 28, 29, 30, 31, 32, 33, 34, 35, 36, 37, 38, 39, 40, 41, 42, 43, 44, 45, 46, 47, 48, 49, 50, 51, 52, 53, 54, 55, 56, 57, 58, 59, 60, 61, 62, 63] [0, 1, 2, 3, 4, 5, 6, 7, 8, 9, 10] (by first | exact zqs_2X | rfl) (by first | exact zqs_3X | rfl) zqn_3 zqd_1 (fun r12 w1 H locs hw hP hD hS => ?_)
      obtain ⟨hq_, hw⟩ := hw; subst hw; subst hq_
      obtain ⟨s13, hs14, hB⟩ := letS_inv hB
      have hP : va_P (dC, dI) vwCl (wX cB cI cJ cZ cS a b b2 c0 rg sl s13) H := by subst hs14; exact hP
      have hD : va_D A (wX cB cI cJ cZ cS a b b2 c0 rg sl s13) := by subst hs14; exact hD
      exact q_iret C hr hlocks hK hP hD hS (Nat.le_of_ble_eq_true rfl) (Nat.le_of_ble_eq_true rfl) dX10_wisest_60 (by cases hB; exact ⟨rfl, rfl⟩)
    · have hB := if_p hB c10
      refine lv_iload_n hx hb dX10_wisest_44 rfl (lv_at hl 0 rfl) ?_
      refine lv_goto (tgt := 60) hx hb dX10_wisest_45 (by decide) ?_
      exact q_iret C hr hlocks hK hP hD hS (Nat.le_of_ble_eq_true rfl) (Nat.le_of_ble_eq_true rfl) dX10_wisest_60 (by cases hB; exact ⟨rfl, rfl⟩)
  · have hB := if_p hB c5
    refine lv_bipush (v := (-2)) hx hb dX10_wisest_25 (by decide) ?_
    exact q_iret C hr hlocks hK hP hD hS (Nat.le_of_ble_eq_true rfl) (Nat.le_of_ble_eq_true rfl) dX10_wisest_27 (by cases hB; exact ⟨rfl, rfl⟩)
set_option maxHeartbeats 4000000 in
set_option maxRecDepth 100000 in
theorem bkX10_wisest {l : Launch} {dC : Nat → ClassId} {dI : Nat → Nat → Nat} {cB cI cJ cZ cS : ClassId} {a b b2 c0 : Nat → Nat} {rg sl : Nat → Option Nat} {as : List Value} {r : Int32} {s' : XS} (s : XS) (x1 : Int32) (hB : kX10_wisest s x1 = some (r, s')) : BlkI l yX10_wisest wsX10_wisest ({ frames := 3, cells := 0, slots := 0, locals := 70 }) cX10_wisest 3 (some .int) (dC, dI) (tysA cB cI cJ cZ cS) as 0 (wX cB cI cJ cZ cS a b b2 c0 rg sl s) [(0, .ref (c0 0)), (1, .int x1)] [] (fun x u => x = r ∧ u = (wX cB cI cJ cZ cS a b b2 c0 rg sl s')) := by
  intro p e s0 m below meth c A E H locs ls hP hD hS hl
  obtain ⟨C, hr, hlocks, hA, hK, hN⟩ := id E
  obtain ⟨hx, hb, hml, hown, hts⟩ := id C
  unfold kX10_wisest at hB
  refine lv_iload_n hx hb dX10_wisest_0 rfl (lv_at hl 1 rfl) ?_
  refine lv_if_eq (tgt := 11) hx hb dX10_wisest_1 (by decide) (fun c1 => ?_) (fun c1 => ?_)
  · have hB := if_p hB c1
    exact bkX10_wisest_11 _ _ hB p e s0 m below meth c A E H locs ls hP hD hS (lv_sub hl [0, 1] rfl)
  · have hB := if_n hB c1
    refine lv_iload_n hx hb dX10_wisest_4 rfl (lv_at hl 1 rfl) ?_
    refine lv_iconst (v := 1) hx hb dX10_wisest_5 (by decide) ?_
    refine lv_icmp_eq (tgt := 11) hx hb dX10_wisest_6 (by decide) (fun c2 => ?_) (fun c2 => ?_)
    · have hB := if_p hB c2
      exact bkX10_wisest_11 _ _ hB p e s0 m below meth c A E H locs ls hP hD hS (lv_sub hl [0, 1] rfl)
    · have hB := if_n hB c2
      refine lv_iconst (v := (-1)) hx hb dX10_wisest_9 (by decide) ?_
      exact q_iret C hr hlocks hK hP hD hS (Nat.le_of_ble_eq_true rfl) (Nat.le_of_ble_eq_true rfl) dX10_wisest_10 (by cases hB; exact ⟨rfl, rfl⟩)
theorem ckX10_wisest {l : Launch} {dC : Nat → ClassId} {dI : Nat → Nat → Nat} {cB cI cJ cZ cS : ClassId} {a b b2 c0 : Nat → Nat} {rg sl : Nat → Option Nat} {r : Int32} {s' : XS} {s : XS} {x1 : Int32} (hB : kX10_wisest s x1 = some (r, s')) : CI l yX10_wisest wsX10_wisest ({ frames := 3, cells := 0, slots := 0, locals := 70 }) (dC, dI) (tysA cB cI cJ cZ cS) (wX cB cI cJ cZ cS a b b2 c0 rg sl s) [.ref (c0 0), .int x1] (fun x u => x = r ∧ u = (wX cB cI cJ cZ cS a b b2 c0 rg sl s')) :=
  CI_of (cc := cX10_wisest) (maxL := 3) (ret := (some .int)) (by decide) rfl (Nat.le_of_ble_eq_true rfl) (bkX10_wisest _ _ hB)
end
section
theorem ggX1_clear_X1_begin : GoodIn wsX1_clear wsX1_begin := gi_sub (fun w h => List.mem_cons_of_mem _ (List.mem_append_left _ (List.mem_append_right _ (List.mem_append_left _ h)))) gd_wsX1_begin
set_option maxRecDepth 20000 in
theorem gX1_clear_X1_begin : GoodIn wsX1_clear (wsV RX1 38 RX1 yX1_begin wsX1_begin) := goodIn_app (goodIn_r _ [2, 3, 4, 5] (by decide +kernel) (by decide +kernel)) ggX1_clear_X1_begin
theorem ggX1_clear_X1_putVar : GoodIn wsX1_clear wsX1_putVar := gi_sub (fun w h => List.mem_cons_of_mem _ (List.mem_append_left _ (List.mem_append_right _ (List.mem_append_right _ (List.mem_append_left _ h))))) gd_wsX1_putVar
set_option maxRecDepth 20000 in
theorem gX1_clear_X1_putVar : GoodIn wsX1_clear (wsV RX1 42 RX1 yX1_putVar wsX1_putVar) := goodIn_app (goodIn_r _ [6, 7, 8, 5] (by decide +kernel) (by decide +kernel)) ggX1_clear_X1_putVar
theorem ggX1_clear_X1_endPart : GoodIn wsX1_clear wsX1_endPart := gi_sub (fun w h => List.mem_cons_of_mem _ (List.mem_append_left _ (List.mem_append_right _ (List.mem_append_right _ (List.mem_append_right _ (List.mem_append_left _ h)))))) gd_wsX1_endPart
set_option maxRecDepth 20000 in
theorem gX1_clear_X1_endPart : GoodIn wsX1_clear (wsV RX1 45 RX1 yX1_endPart wsX1_endPart) := goodIn_app (goodIn_r _ [9, 10, 11, 5] (by decide +kernel) (by decide +kernel)) ggX1_clear_X1_endPart
theorem ggX1_clear_X1_putNumber : GoodIn wsX1_clear wsX1_putNumber := gi_sub (fun w h => List.mem_cons_of_mem _ (List.mem_append_left _ (List.mem_append_right _ (List.mem_append_right _ (List.mem_append_right _ (List.mem_append_right _ h)))))) gd_wsX1_putNumber
set_option maxRecDepth 20000 in
theorem gX1_clear_X1_putNumber : GoodIn wsX1_clear (wsV RX1 48 RX1 yX1_putNumber wsX1_putNumber) := goodIn_app (goodIn_r _ [12, 13, 14, 5] (by decide +kernel) (by decide +kernel)) ggX1_clear_X1_putNumber
theorem dX1_clear_0 : decode cX1_clear 0 = .ok (.aload_n 0, 1) := dc1_42 (by decide +kernel)
theorem dX1_clear_1 : decode cX1_clear 1 = .ok (.iconst 0, 1) := dc1_3 (by decide +kernel)
theorem dX1_clear_2 : decode cX1_clear 2 = .ok (.putfield 34, 3) := dcw_181 (by decide +kernel)
theorem dX1_clear_5 : decode cX1_clear 5 = .ok (.aload_n 0, 1) := dc1_42 (by decide +kernel)
theorem dX1_clear_6 : decode cX1_clear 6 = .ok (.iconst 0, 1) := dc1_3 (by decide +kernel)
theorem dX1_clear_7 : decode cX1_clear 7 = .ok (.invokevirtual 38, 3) := dcw_182 (by decide +kernel)
theorem dX1_clear_10 : decode cX1_clear 10 = .ok (.aload_n 0, 1) := dc1_42 (by decide +kernel)
theorem dX1_clear_11 : decode cX1_clear 11 = .ok (.iconst 2, 1) := dc1_5 (by decide +kernel)
theorem dX1_clear_12 : decode cX1_clear 12 = .ok (.invokevirtual 42, 3) := dcw_182 (by decide +kernel)
theorem dX1_clear_15 : decode cX1_clear 15 = .ok (.aload_n 0, 1) := dc1_42 (by decide +kernel)
theorem dX1_clear_16 : decode cX1_clear 16 = .ok (.invokevirtual 45, 3) := dcw_182 (by decide +kernel)
theorem dX1_clear_19 : decode cX1_clear 19 = .ok (.aload_n 0, 1) := dc1_42 (by decide +kernel)
theorem dX1_clear_20 : decode cX1_clear 20 = .ok (.iconst 1, 1) := dc1_4 (by decide +kernel)
theorem dX1_clear_21 : decode cX1_clear 21 = .ok (.invokevirtual 38, 3) := dcw_182 (by decide +kernel)
theorem dX1_clear_24 : decode cX1_clear 24 = .ok (.aload_n 0, 1) := dc1_42 (by decide +kernel)
theorem dX1_clear_25 : decode cX1_clear 25 = .ok (.iconst 1, 1) := dc1_4 (by decide +kernel)
theorem dX1_clear_26 : decode cX1_clear 26 = .ok (.invokevirtual 48, 3) := dcw_182 (by decide +kernel)
theorem dX1_clear_29 : decode cX1_clear 29 = .ok (.aload_n 0, 1) := dc1_42 (by decide +kernel)
theorem dX1_clear_30 : decode cX1_clear 30 = .ok (.invokevirtual 45, 3) := dcw_182 (by decide +kernel)
theorem dX1_clear_33 : decode cX1_clear 33 = .ok (.aload_n 0, 1) := dc1_42 (by decide +kernel)
theorem dX1_clear_34 : decode cX1_clear 34 = .ok (.iconst 2, 1) := dc1_5 (by decide +kernel)
theorem dX1_clear_35 : decode cX1_clear 35 = .ok (.invokevirtual 38, 3) := dcw_182 (by decide +kernel)
theorem dX1_clear_38 : decode cX1_clear 38 = .ok (.aload_n 0, 1) := dc1_42 (by decide +kernel)
theorem dX1_clear_39 : decode cX1_clear 39 = .ok (.iconst 1, 1) := dc1_4 (by decide +kernel)
theorem dX1_clear_40 : decode cX1_clear 40 = .ok (.invokevirtual 48, 3) := dcw_182 (by decide +kernel)
theorem dX1_clear_43 : decode cX1_clear 43 = .ok (.aload_n 0, 1) := dc1_42 (by decide +kernel)
theorem dX1_clear_44 : decode cX1_clear 44 = .ok (.invokevirtual 45, 3) := dcw_182 (by decide +kernel)
theorem dX1_clear_47 : decode cX1_clear 47 = .ok (.aload_n 0, 1) := dc1_42 (by decide +kernel)
theorem dX1_clear_48 : decode cX1_clear 48 = .ok (.iconst 3, 1) := dc1_6 (by decide +kernel)
theorem dX1_clear_49 : decode cX1_clear 49 = .ok (.invokevirtual 38, 3) := dcw_182 (by decide +kernel)
theorem dX1_clear_52 : decode cX1_clear 52 = .ok (.aload_n 0, 1) := dc1_42 (by decide +kernel)
theorem dX1_clear_53 : decode cX1_clear 53 = .ok (.iconst 0, 1) := dc1_3 (by decide +kernel)
theorem dX1_clear_54 : decode cX1_clear 54 = .ok (.invokevirtual 48, 3) := dcw_182 (by decide +kernel)
theorem dX1_clear_57 : decode cX1_clear 57 = .ok (.aload_n 0, 1) := dc1_42 (by decide +kernel)
theorem dX1_clear_58 : decode cX1_clear 58 = .ok (.invokevirtual 45, 3) := dcw_182 (by decide +kernel)
theorem dX1_clear_61 : decode cX1_clear 61 = .ok (.return_, 1) := dc1_177 (by decide +kernel)
theorem ggX10_rank_X5_hasGuess : GoodIn wsX10_rank wsX5_hasGuess := gi_sub (fun w h => List.mem_cons_of_mem _ (List.mem_append_left _ (List.mem_append_left _ (List.mem_append_left _ (List.mem_append_left _ (List.mem_append_left _ (List.mem_append_right _ (List.mem_append_left _ h)))))))) gd_wsX5_hasGuess
set_option maxRecDepth 20000 in
theorem gX10_rank_X5_hasGuess_n170 : GoodIn wsX10_rank (wsX5_hasGuess) := ggX10_rank_X5_hasGuess
theorem ggX10_rank_X2_oddsOf : GoodIn wsX10_rank wsX2_oddsOf := gi_sub (fun w h => List.mem_cons_of_mem _ (List.mem_append_left _ (List.mem_append_left _ (List.mem_append_left _ (List.mem_append_left _ (List.mem_append_left _ (List.mem_append_right _ (List.mem_append_right _ (List.mem_append_left _ h))))))))) gd_wsX2_oddsOf
set_option maxRecDepth 20000 in
theorem gX10_rank_X2_oddsOf_n200 : GoodIn wsX10_rank (wsX2_oddsOf) := ggX10_rank_X2_oddsOf
theorem ggX10_rank_X2_casesAheadOf : GoodIn wsX10_rank wsX2_casesAheadOf := gi_sub (fun w h => List.mem_cons_of_mem _ (List.mem_append_left _ (List.mem_append_left _ (List.mem_append_left _ (List.mem_append_left _ (List.mem_append_left _ (List.mem_append_right _ (List.mem_append_right _ (List.mem_append_right _ h))))))))) gd_wsX2_casesAheadOf
set_option maxRecDepth 20000 in
theorem gX10_rank_X2_casesAheadOf_n221 : GoodIn wsX10_rank (wsX2_casesAheadOf) := ggX10_rank_X2_casesAheadOf
theorem dX10_rank_0 : decode cX10_rank 0 = .ok (.aload_n 0, 1) := dc1_42 (by decide +kernel)
theorem dX10_rank_1 : decode cX10_rank 1 = .ok (.getfield 19, 3) := dcw_180 (by decide +kernel)
theorem dX10_rank_4 : decode cX10_rank 4 = .ok (.iload_n 1, 1) := dc1_27 (by decide +kernel)
theorem dX10_rank_5 : decode cX10_rank 5 = .ok (.invokevirtual 170, 3) := dcw_182 (by decide +kernel)
theorem dX10_rank_8 : decode cX10_rank 8 = .ok (.ifCond .ne 5, 3) := dcs_154 (n := 5) (by decide +kernel)
theorem dX10_rank_11 : decode cX10_rank 11 = .ok (.iconst (-1), 1) := dc1_2 (by decide +kernel)
theorem dX10_rank_12 : decode cX10_rank 12 = .ok (.ireturn, 1) := dc1_172 (by decide +kernel)
theorem dX10_rank_13 : decode cX10_rank 13 = .ok (.aload_n 0, 1) := dc1_42 (by decide +kernel)
theorem dX10_rank_14 : decode cX10_rank 14 = .ok (.getfield 63, 3) := dcw_180 (by decide +kernel)
theorem dX10_rank_17 : decode cX10_rank 17 = .ok (.aload_n 0, 1) := dc1_42 (by decide +kernel)
theorem dX10_rank_18 : decode cX10_rank 18 = .ok (.getfield 35, 3) := dcw_180 (by decide +kernel)
theorem dX10_rank_21 : decode cX10_rank 21 = .ok (.iload_n 1, 1) := dc1_27 (by decide +kernel)
theorem dX10_rank_22 : decode cX10_rank 22 = .ok (.invokevirtual 200, 3) := dcw_182 (by decide +kernel)
theorem dX10_rank_25 : decode cX10_rank 25 = .ok (.istore_n 2, 1) := dc1_61 (by decide +kernel)
theorem dX10_rank_26 : decode cX10_rank 26 = .ok (.iload_n 2, 1) := dc1_28 (by decide +kernel)
theorem dX10_rank_27 : decode cX10_rank 27 = .ok (.ifCond .ne 8, 3) := dcs_154 (n := 8) (by decide +kernel)
theorem dX10_rank_30 : decode cX10_rank 30 = .ok (.bipush (-2), 2) := dcb_16 (n := 254) (by decide +kernel)
theorem dX10_rank_32 : decode cX10_rank 32 = .ok (.goto 16, 3) := dcs_167 (n := 16) (by decide +kernel)
theorem dX10_rank_35 : decode cX10_rank 35 = .ok (.aload_n 0, 1) := dc1_42 (by decide +kernel)
theorem dX10_rank_36 : decode cX10_rank 36 = .ok (.getfield 63, 3) := dcw_180 (by decide +kernel)
theorem dX10_rank_39 : decode cX10_rank 39 = .ok (.aload_n 0, 1) := dc1_42 (by decide +kernel)
theorem dX10_rank_40 : decode cX10_rank 40 = .ok (.getfield 35, 3) := dcw_180 (by decide +kernel)
theorem dX10_rank_43 : decode cX10_rank 43 = .ok (.iload_n 1, 1) := dc1_27 (by decide +kernel)
theorem dX10_rank_44 : decode cX10_rank 44 = .ok (.iload_n 2, 1) := dc1_28 (by decide +kernel)
theorem dX10_rank_45 : decode cX10_rank 45 = .ok (.invokevirtual 221, 3) := dcw_182 (by decide +kernel)
theorem dX10_rank_48 : decode cX10_rank 48 = .ok (.ireturn, 1) := dc1_172 (by decide +kernel)
theorem ggX10_ranked_X2_caseAtRank : GoodIn wsX10_ranked wsX2_caseAtRank := gi_sub (fun w h => List.mem_cons_of_mem _ (List.mem_append_left _ (List.mem_append_left _ (List.mem_append_left _ (List.mem_append_left _ (List.mem_append_left _ (List.mem_append_right _ h))))))) gd_wsX2_caseAtRank
set_option maxRecDepth 20000 in
theorem gX10_ranked_X2_caseAtRank_n224 : GoodIn wsX10_ranked (wsX2_caseAtRank) := ggX10_ranked_X2_caseAtRank
theorem dX10_ranked_0 : decode cX10_ranked 0 = .ok (.iload_n 1, 1) := dc1_27 (by decide +kernel)
theorem dX10_ranked_1 : decode cX10_ranked 1 = .ok (.ifCond .lt 9, 3) := dcs_155 (n := 9) (by decide +kernel)
theorem dX10_ranked_4 : decode cX10_ranked 4 = .ok (.iload_n 1, 1) := dc1_27 (by decide +kernel)
theorem dX10_ranked_5 : decode cX10_ranked 5 = .ok (.bipush 20, 2) := dcb_16 (n := 20) (by decide +kernel)
theorem dX10_ranked_7 : decode cX10_ranked 7 = .ok (.if_icmp .lt 7, 3) := dcs_161 (n := 7) (by decide +kernel)
theorem dX10_ranked_10 : decode cX10_ranked 10 = .ok (.iconst (-1), 1) := dc1_2 (by decide +kernel)
theorem dX10_ranked_11 : decode cX10_ranked 11 = .ok (.goto 15, 3) := dcs_167 (n := 15) (by decide +kernel)
theorem dX10_ranked_14 : decode cX10_ranked 14 = .ok (.aload_n 0, 1) := dc1_42 (by decide +kernel)
theorem dX10_ranked_15 : decode cX10_ranked 15 = .ok (.getfield 63, 3) := dcw_180 (by decide +kernel)
theorem dX10_ranked_18 : decode cX10_ranked 18 = .ok (.aload_n 0, 1) := dc1_42 (by decide +kernel)
theorem dX10_ranked_19 : decode cX10_ranked 19 = .ok (.getfield 35, 3) := dcw_180 (by decide +kernel)
theorem dX10_ranked_22 : decode cX10_ranked 22 = .ok (.iload_n 1, 1) := dc1_27 (by decide +kernel)
theorem dX10_ranked_23 : decode cX10_ranked 23 = .ok (.invokevirtual 224, 3) := dcw_182 (by decide +kernel)
theorem dX10_ranked_26 : decode cX10_ranked 26 = .ok (.ireturn, 1) := dc1_172 (by decide +kernel)
theorem ggX10_alike_X5_hasGuess : GoodIn wsX10_alike wsX5_hasGuess := gi_sub (fun w h => List.mem_cons_of_mem _ (List.mem_append_left _ (List.mem_append_left _ (List.mem_append_right _ (List.mem_append_left _ h))))) gd_wsX5_hasGuess
set_option maxRecDepth 20000 in
theorem gX10_alike_X5_hasGuess_n170 : GoodIn wsX10_alike (wsX5_hasGuess) := ggX10_alike_X5_hasGuess
theorem ggX10_alike_X10_thingIn : GoodIn wsX10_alike wsX10_thingIn := gi_sub (fun w h => List.mem_cons_of_mem _ (List.mem_append_left _ (List.mem_append_left _ (List.mem_append_right _ (List.mem_append_right _ h))))) gd_wsX10_thingIn
set_option maxRecDepth 20000 in
theorem gX10_alike_X10_thingIn : GoodIn wsX10_alike (va_wsS RX10 232 yX10_thingIn wsX10_thingIn) := goodIn_app (goodIn_of _ (by decide +kernel)) ggX10_alike_X10_thingIn
theorem dX10_alike_0 : decode cX10_alike 0 = .ok (.aload_n 0, 1) := dc1_42 (by decide +kernel)
theorem dX10_alike_1 : decode cX10_alike 1 = .ok (.getfield 19, 3) := dcw_180 (by decide +kernel)
theorem dX10_alike_4 : decode cX10_alike 4 = .ok (.iload_n 1, 1) := dc1_27 (by decide +kernel)
theorem dX10_alike_5 : decode cX10_alike 5 = .ok (.invokevirtual 170, 3) := dcw_182 (by decide +kernel)
theorem dX10_alike_8 : decode cX10_alike 8 = .ok (.ifCond .eq 14, 3) := dcs_153 (n := 14) (by decide +kernel)
theorem dX10_alike_11 : decode cX10_alike 11 = .ok (.aload_n 0, 1) := dc1_42 (by decide +kernel)
theorem dX10_alike_12 : decode cX10_alike 12 = .ok (.getfield 19, 3) := dcw_180 (by decide +kernel)
theorem dX10_alike_15 : decode cX10_alike 15 = .ok (.iload_n 2, 1) := dc1_28 (by decide +kernel)
theorem dX10_alike_16 : decode cX10_alike 16 = .ok (.invokevirtual 170, 3) := dcw_182 (by decide +kernel)
theorem dX10_alike_19 : decode cX10_alike 19 = .ok (.ifCond .ne 5, 3) := dcs_154 (n := 5) (by decide +kernel)
theorem dX10_alike_22 : decode cX10_alike 22 = .ok (.iconst (-1), 1) := dc1_2 (by decide +kernel)
theorem dX10_alike_23 : decode cX10_alike 23 = .ok (.ireturn, 1) := dc1_172 (by decide +kernel)
theorem dX10_alike_24 : decode cX10_alike 24 = .ok (.iconst 0, 1) := dc1_3 (by decide +kernel)
theorem dX10_alike_25 : decode cX10_alike 25 = .ok (.istore_n 3, 1) := dc1_62 (by decide +kernel)
theorem dX10_alike_26 : decode cX10_alike 26 = .ok (.iload_n 3, 1) := dc1_29 (by decide +kernel)
theorem dX10_alike_27 : decode cX10_alike 27 = .ok (.aload_n 0, 1) := dc1_42 (by decide +kernel)
theorem dX10_alike_28 : decode cX10_alike 28 = .ok (.getfield 19, 3) := dcw_180 (by decide +kernel)
theorem dX10_alike_31 : decode cX10_alike 31 = .ok (.getfield 167, 3) := dcw_180 (by decide +kernel)
theorem dX10_alike_34 : decode cX10_alike 34 = .ok (.if_icmp .ge 22, 3) := dcs_162 (n := 22) (by decide +kernel)
theorem dX10_alike_37 : decode cX10_alike 37 = .ok (.iload_n 1, 1) := dc1_27 (by decide +kernel)
theorem dX10_alike_38 : decode cX10_alike 38 = .ok (.iload_n 3, 1) := dc1_29 (by decide +kernel)
theorem dX10_alike_39 : decode cX10_alike 39 = .ok (.invokestatic 232, 3) := dcw_184 (by decide +kernel)
theorem dX10_alike_42 : decode cX10_alike 42 = .ok (.iload_n 2, 1) := dc1_28 (by decide +kernel)
theorem dX10_alike_43 : decode cX10_alike 43 = .ok (.iload_n 3, 1) := dc1_29 (by decide +kernel)
theorem dX10_alike_44 : decode cX10_alike 44 = .ok (.invokestatic 232, 3) := dcw_184 (by decide +kernel)
theorem dX10_alike_47 : decode cX10_alike 47 = .ok (.if_icmp .ne 9, 3) := dcs_160 (n := 9) (by decide +kernel)
theorem dX10_alike_50 : decode cX10_alike 50 = .ok (.iinc 3 1, 3) := dc_iinc (m := 1) (by decide +kernel)
theorem dX10_alike_53 : decode cX10_alike 53 = .ok (.goto (-27), 3) := dcs_167 (n := 65509) (by decide +kernel)
theorem dX10_alike_56 : decode cX10_alike 56 = .ok (.iload_n 3, 1) := dc1_29 (by decide +kernel)
theorem dX10_alike_57 : decode cX10_alike 57 = .ok (.ireturn, 1) := dc1_172 (by decide +kernel)
theorem ggX10_spread_X5_hasWave : GoodIn wsX10_spread wsX5_hasWave := gi_sub (fun w h => List.mem_cons_of_mem _ (List.mem_append_left _ (List.mem_append_left _ (List.mem_append_left _ (List.mem_append_left _ (List.mem_append_left _ (List.mem_append_right _ (List.mem_append_left _ h)))))))) gd_wsX5_hasWave
set_option maxRecDepth 20000 in
theorem gX10_spread_X5_hasWave_n108 : GoodIn wsX10_spread (wsX5_hasWave) := ggX10_spread_X5_hasWave
theorem ggX10_spread_X2_oddsApart : GoodIn wsX10_spread wsX2_oddsApart := gi_sub (fun w h => List.mem_cons_of_mem _ (List.mem_append_left _ (List.mem_append_left _ (List.mem_append_left _ (List.mem_append_left _ (List.mem_append_left _ (List.mem_append_right _ (List.mem_append_right _ h)))))))) gd_wsX2_oddsApart
set_option maxRecDepth 20000 in
theorem gX10_spread_X2_oddsApart_n238 : GoodIn wsX10_spread (wsX2_oddsApart) := ggX10_spread_X2_oddsApart
theorem dX10_spread_0 : decode cX10_spread 0 = .ok (.aload_n 0, 1) := dc1_42 (by decide +kernel)
theorem dX10_spread_1 : decode cX10_spread 1 = .ok (.getfield 19, 3) := dcw_180 (by decide +kernel)
theorem dX10_spread_4 : decode cX10_spread 4 = .ok (.iload_n 1, 1) := dc1_27 (by decide +kernel)
theorem dX10_spread_5 : decode cX10_spread 5 = .ok (.invokevirtual 108, 3) := dcw_182 (by decide +kernel)
theorem dX10_spread_8 : decode cX10_spread 8 = .ok (.ifCond .eq 18, 3) := dcs_153 (n := 18) (by decide +kernel)
theorem dX10_spread_11 : decode cX10_spread 11 = .ok (.aload_n 0, 1) := dc1_42 (by decide +kernel)
theorem dX10_spread_12 : decode cX10_spread 12 = .ok (.getfield 63, 3) := dcw_180 (by decide +kernel)
theorem dX10_spread_15 : decode cX10_spread 15 = .ok (.aload_n 0, 1) := dc1_42 (by decide +kernel)
theorem dX10_spread_16 : decode cX10_spread 16 = .ok (.getfield 35, 3) := dcw_180 (by decide +kernel)
theorem dX10_spread_19 : decode cX10_spread 19 = .ok (.iload_n 1, 1) := dc1_27 (by decide +kernel)
theorem dX10_spread_20 : decode cX10_spread 20 = .ok (.invokevirtual 238, 3) := dcw_182 (by decide +kernel)
theorem dX10_spread_23 : decode cX10_spread 23 = .ok (.goto 4, 3) := dcs_167 (n := 4) (by decide +kernel)
theorem dX10_spread_26 : decode cX10_spread 26 = .ok (.iconst (-1), 1) := dc1_2 (by decide +kernel)
theorem dX10_spread_27 : decode cX10_spread 27 = .ok (.ireturn, 1) := dc1_172 (by decide +kernel)
theorem ggX10_open_X0_mayBe : GoodIn wsX10_open wsX0_mayBe := gi_sub (fun w h => List.mem_cons_of_mem _ (List.mem_append_left _ (List.mem_append_left _ (List.mem_append_left _ (List.mem_append_left _ (List.mem_append_right _ (List.mem_append_left _ h))))))) gd_wsX0_mayBe
set_option maxRecDepth 20000 in
theorem gX10_open_X0_mayBe_n111 : GoodIn wsX10_open (wsX0_mayBe) := ggX10_open_X0_mayBe
theorem ggX10_open_J6_bitCount_0f7a4 : GoodIn wsX10_open wsJ6_bitCount_0f7a4 := gi_sub (fun w h => List.mem_cons_of_mem _ (List.mem_append_left _ (List.mem_append_left _ (List.mem_append_left _ (List.mem_append_left _ (List.mem_append_right _ (List.mem_append_right _ h))))))) gd_wsJ6_bitCount_0f7a4
set_option maxRecDepth 20000 in
theorem gX10_open_J6_bitCount_0f7a4 : GoodIn wsX10_open (va_wsS RX10 247 yJ6_bitCount_0f7a4 wsJ6_bitCount_0f7a4) := goodIn_app (goodIn_of _ (by decide +kernel)) ggX10_open_J6_bitCount_0f7a4
theorem dX10_open_0 : decode cX10_open 0 = .ok (.iconst 0, 1) := dc1_3 (by decide +kernel)
theorem dX10_open_1 : decode cX10_open 1 = .ok (.istore_n 1, 1) := dc1_60 (by decide +kernel)
theorem dX10_open_2 : decode cX10_open 2 = .ok (.iconst 0, 1) := dc1_3 (by decide +kernel)
theorem dX10_open_3 : decode cX10_open 3 = .ok (.istore_n 2, 1) := dc1_61 (by decide +kernel)
theorem dX10_open_4 : decode cX10_open 4 = .ok (.iload_n 2, 1) := dc1_28 (by decide +kernel)
theorem dX10_open_5 : decode cX10_open 5 = .ok (.aload_n 0, 1) := dc1_42 (by decide +kernel)
theorem dX10_open_6 : decode cX10_open 6 = .ok (.getfield 19, 3) := dcw_180 (by decide +kernel)
theorem dX10_open_9 : decode cX10_open 9 = .ok (.getfield 167, 3) := dcw_180 (by decide +kernel)
theorem dX10_open_12 : decode cX10_open 12 = .ok (.if_icmp .ge 34, 3) := dcs_162 (n := 34) (by decide +kernel)
theorem dX10_open_15 : decode cX10_open 15 = .ok (.aload_n 0, 1) := dc1_42 (by decide +kernel)
theorem dX10_open_16 : decode cX10_open 16 = .ok (.getfield 54, 3) := dcw_180 (by decide +kernel)
theorem dX10_open_19 : decode cX10_open 19 = .ok (.aload_n 0, 1) := dc1_42 (by decide +kernel)
theorem dX10_open_20 : decode cX10_open 20 = .ok (.getfield 35, 3) := dcw_180 (by decide +kernel)
theorem dX10_open_23 : decode cX10_open 23 = .ok (.iload_n 2, 1) := dc1_28 (by decide +kernel)
theorem dX10_open_24 : decode cX10_open 24 = .ok (.invokevirtual 111, 3) := dcw_182 (by decide +kernel)
theorem dX10_open_27 : decode cX10_open 27 = .ok (.invokestatic 247, 3) := dcw_184 (by decide +kernel)
theorem dX10_open_30 : decode cX10_open 30 = .ok (.iconst 1, 1) := dc1_4 (by decide +kernel)
theorem dX10_open_31 : decode cX10_open 31 = .ok (.if_icmp .le 9, 3) := dcs_164 (n := 9) (by decide +kernel)
theorem dX10_open_34 : decode cX10_open 34 = .ok (.iload_n 1, 1) := dc1_27 (by decide +kernel)
theorem dX10_open_35 : decode cX10_open 35 = .ok (.iconst 1, 1) := dc1_4 (by decide +kernel)
theorem dX10_open_36 : decode cX10_open 36 = .ok (.iload_n 2, 1) := dc1_28 (by decide +kernel)
theorem dX10_open_37 : decode cX10_open 37 = .ok (.ishl, 1) := dc1_120 (by decide +kernel)
theorem dX10_open_38 : decode cX10_open 38 = .ok (.ior, 1) := dc1_128 (by decide +kernel)
theorem dX10_open_39 : decode cX10_open 39 = .ok (.istore_n 1, 1) := dc1_60 (by decide +kernel)
theorem dX10_open_40 : decode cX10_open 40 = .ok (.iinc 2 1, 3) := dc_iinc (m := 1) (by decide +kernel)
theorem dX10_open_43 : decode cX10_open 43 = .ok (.goto (-39), 3) := dcs_167 (n := 65497) (by decide +kernel)
theorem dX10_open_46 : decode cX10_open 46 = .ok (.iload_n 1, 1) := dc1_27 (by decide +kernel)
theorem dX10_open_47 : decode cX10_open 47 = .ok (.ireturn, 1) := dc1_172 (by decide +kernel)
theorem ggX10_buoysLying_J6_bitCount_0f7a4 : GoodIn wsX10_buoysLying wsJ6_bitCount_0f7a4 := gi_sub (fun w h => List.mem_cons_of_mem _ (List.mem_append_left _ (List.mem_append_left _ (List.mem_append_left _ (List.mem_append_right _ h))))) gd_wsJ6_bitCount_0f7a4
set_option maxRecDepth 20000 in
theorem gX10_buoysLying_J6_bitCount_0f7a4 : GoodIn wsX10_buoysLying (va_wsS RX10 247 yJ6_bitCount_0f7a4 wsJ6_bitCount_0f7a4) := goodIn_app (goodIn_of _ (by decide +kernel)) ggX10_buoysLying_J6_bitCount_0f7a4
theorem dX10_buoysLying_0 : decode cX10_buoysLying 0 = .ok (.iconst 0, 1) := dc1_3 (by decide +kernel)
theorem dX10_buoysLying_1 : decode cX10_buoysLying 1 = .ok (.istore_n 1, 1) := dc1_60 (by decide +kernel)
theorem dX10_buoysLying_2 : decode cX10_buoysLying 2 = .ok (.iconst 0, 1) := dc1_3 (by decide +kernel)
theorem dX10_buoysLying_3 : decode cX10_buoysLying 3 = .ok (.istore_n 2, 1) := dc1_61 (by decide +kernel)
theorem dX10_buoysLying_4 : decode cX10_buoysLying 4 = .ok (.iload_n 2, 1) := dc1_28 (by decide +kernel)
theorem dX10_buoysLying_5 : decode cX10_buoysLying 5 = .ok (.aload_n 0, 1) := dc1_42 (by decide +kernel)
theorem dX10_buoysLying_6 : decode cX10_buoysLying 6 = .ok (.getfield 19, 3) := dcw_180 (by decide +kernel)
theorem dX10_buoysLying_9 : decode cX10_buoysLying 9 = .ok (.getfield 167, 3) := dcw_180 (by decide +kernel)
theorem dX10_buoysLying_12 : decode cX10_buoysLying 12 = .ok (.if_icmp .ge 24, 3) := dcs_162 (n := 24) (by decide +kernel)
theorem dX10_buoysLying_15 : decode cX10_buoysLying 15 = .ok (.iload_n 1, 1) := dc1_27 (by decide +kernel)
theorem dX10_buoysLying_16 : decode cX10_buoysLying 16 = .ok (.aload_n 0, 1) := dc1_42 (by decide +kernel)
theorem dX10_buoysLying_17 : decode cX10_buoysLying 17 = .ok (.getfield 35, 3) := dcw_180 (by decide +kernel)
theorem dX10_buoysLying_20 : decode cX10_buoysLying 20 = .ok (.getfield 119, 3) := dcw_180 (by decide +kernel)
theorem dX10_buoysLying_23 : decode cX10_buoysLying 23 = .ok (.iload_n 2, 1) := dc1_28 (by decide +kernel)
theorem dX10_buoysLying_24 : decode cX10_buoysLying 24 = .ok (.iaload, 1) := dc1_46 (by decide +kernel)
theorem dX10_buoysLying_25 : decode cX10_buoysLying 25 = .ok (.invokestatic 247, 3) := dcw_184 (by decide +kernel)
theorem dX10_buoysLying_28 : decode cX10_buoysLying 28 = .ok (.iadd, 1) := dc1_96 (by decide +kernel)
theorem dX10_buoysLying_29 : decode cX10_buoysLying 29 = .ok (.istore_n 1, 1) := dc1_60 (by decide +kernel)
theorem dX10_buoysLying_30 : decode cX10_buoysLying 30 = .ok (.iinc 2 1, 3) := dc_iinc (m := 1) (by decide +kernel)
theorem dX10_buoysLying_33 : decode cX10_buoysLying 33 = .ok (.goto (-29), 3) := dcs_167 (n := 65507) (by decide +kernel)
theorem dX10_buoysLying_36 : decode cX10_buoysLying 36 = .ok (.iload_n 1, 1) := dc1_27 (by decide +kernel)
theorem dX10_buoysLying_37 : decode cX10_buoysLying 37 = .ok (.ireturn, 1) := dc1_172 (by decide +kernel)
theorem ggX10_lot_X10_stirred : GoodIn wsX10_lot wsX10_stirred := gi_sub (fun w h => List.mem_cons_of_mem _ (List.mem_append_right _ h)) gd_wsX10_stirred
set_option maxRecDepth 20000 in
theorem gX10_lot_X10_stirred : GoodIn wsX10_lot (va_wsS RX10 322 yX10_stirred wsX10_stirred) := goodIn_app (goodIn_of _ (by decide +kernel)) ggX10_lot_X10_stirred
theorem dX10_lot_0 : decode cX10_lot 0 = .ok (.iload_n 0, 1) := dc1_26 (by decide +kernel)
theorem dX10_lot_1 : decode cX10_lot 1 = .ok (.ifCond .gt 5, 3) := dcs_157 (n := 5) (by decide +kernel)
theorem dX10_lot_4 : decode cX10_lot 4 = .ok (.iconst 0, 1) := dc1_3 (by decide +kernel)
theorem dX10_lot_5 : decode cX10_lot 5 = .ok (.ireturn, 1) := dc1_172 (by decide +kernel)
theorem dX10_lot_6 : decode cX10_lot 6 = .ok (.iload_n 1, 1) := dc1_27 (by decide +kernel)
theorem dX10_lot_7 : decode cX10_lot 7 = .ok (.sipush 173, 3) := dcs_17 (n := 173) (by decide +kernel)
theorem dX10_lot_10 : decode cX10_lot 10 = .ok (.invokestatic 322, 3) := dcw_184 (by decide +kernel)
theorem dX10_lot_13 : decode cX10_lot 13 = .ok (.iload_n 2, 1) := dc1_28 (by decide +kernel)
theorem dX10_lot_14 : decode cX10_lot 14 = .ok (.invokestatic 322, 3) := dcw_184 (by decide +kernel)
theorem dX10_lot_17 : decode cX10_lot 17 = .ok (.istore_n 3, 1) := dc1_62 (by decide +kernel)
theorem dX10_lot_18 : decode cX10_lot 18 = .ok (.iload_n 3, 1) := dc1_29 (by decide +kernel)
theorem dX10_lot_19 : decode cX10_lot 19 = .ok (.iconst 1, 1) := dc1_4 (by decide +kernel)
theorem dX10_lot_20 : decode cX10_lot 20 = .ok (.iushr, 1) := dc1_124 (by decide +kernel)
theorem dX10_lot_21 : decode cX10_lot 21 = .ok (.iload_n 0, 1) := dc1_26 (by decide +kernel)
theorem dX10_lot_22 : decode cX10_lot 22 = .ok (.irem, 1) := dc1_112 (by decide +kernel)
theorem dX10_lot_23 : decode cX10_lot 23 = .ok (.ireturn, 1) := dc1_172 (by decide +kernel)
theorem LX10_rank_19 : Cond.fieldLink RX10 19 "GuessFerry" "sound" "LGuessFerry$Sound;" ∈ wsX10_rank := (List.mem_cons_of_mem _ (List.mem_append_left _ (List.mem_append_left _ (List.mem_append_left _ (List.mem_append_left _ (List.mem_append_left _ (List.mem_append_left _ (List.mem_of_getElem? (i := 0) rfl))))))))
theorem LX10_rank_35 : Cond.fieldLink RX10 35 "GuessFerry" "now" "LGuessFerry$Standing;" ∈ wsX10_rank := (List.mem_cons_of_mem _ (List.mem_append_left _ (List.mem_append_left _ (List.mem_append_left _ (List.mem_append_left _ (List.mem_append_left _ (List.mem_append_left _ (List.mem_of_getElem? (i := 2) rfl))))))))
theorem LX10_rank_63 : Cond.fieldLink RX10 63 "GuessFerry" "outlook" "LGuessFerry$Outlook;" ∈ wsX10_rank := (List.mem_cons_of_mem _ (List.mem_append_left _ (List.mem_append_left _ (List.mem_append_left _ (List.mem_append_left _ (List.mem_append_left _ (List.mem_append_left _ (List.mem_of_getElem? (i := 1) rfl))))))))
theorem LX10_rank_E_X2_casesAheadOf : Cond.selects RX2 yX2_casesAheadOf yX2_casesAheadOf ∈ wsX10_rank := (List.mem_cons_of_mem _ (List.mem_append_left _ (List.mem_append_left _ (List.mem_append_left _ (List.mem_append_left _ (List.mem_append_left _ (List.mem_append_left _ (List.mem_of_getElem? (i := 10) rfl))))))))
theorem LX10_rank_E_X2_oddsOf : Cond.selects RX2 yX2_oddsOf yX2_oddsOf ∈ wsX10_rank := (List.mem_cons_of_mem _ (List.mem_append_left _ (List.mem_append_left _ (List.mem_append_left _ (List.mem_append_left _ (List.mem_append_left _ (List.mem_append_left _ (List.mem_of_getElem? (i := 8) rfl))))))))
theorem LX10_rank_E_X5_hasGuess : Cond.selects RX5 yX5_hasGuess yX5_hasGuess ∈ wsX10_rank := (List.mem_cons_of_mem _ (List.mem_append_left _ (List.mem_append_left _ (List.mem_append_left _ (List.mem_append_left _ (List.mem_append_left _ (List.mem_append_left _ (List.mem_of_getElem? (i := 5) rfl))))))))
theorem LX10_rank_I_X2 : Cond.initialized RX2 ∈ wsX10_rank := (List.mem_cons_of_mem _ (List.mem_append_left _ (List.mem_append_left _ (List.mem_append_left _ (List.mem_append_left _ (List.mem_append_left _ (List.mem_append_left _ (List.mem_of_getElem? (i := 7) rfl))))))))
theorem LX10_rank_I_X5 : Cond.initialized RX5 ∈ wsX10_rank := (List.mem_cons_of_mem _ (List.mem_append_left _ (List.mem_append_left _ (List.mem_append_left _ (List.mem_append_left _ (List.mem_append_left _ (List.mem_append_left _ (List.mem_of_getElem? (i := 4) rfl))))))))
theorem LX10_rank_N_X2_casesAheadOf : Cond.instanceMethod yX2_casesAheadOf ∈ wsX10_rank := (List.mem_cons_of_mem _ (List.mem_append_left _ (List.mem_append_left _ (List.mem_append_left _ (List.mem_append_left _ (List.mem_append_left _ (List.mem_append_left _ (List.mem_of_getElem? (i := 9) rfl))))))))
theorem LX10_rank_N_X2_oddsOf : Cond.instanceMethod yX2_oddsOf ∈ wsX10_rank := (List.mem_cons_of_mem _ (List.mem_append_left _ (List.mem_append_left _ (List.mem_append_left _ (List.mem_append_left _ (List.mem_append_left _ (List.mem_append_left _ (List.mem_of_getElem? (i := 6) rfl))))))))
theorem LX10_rank_N_X5_hasGuess : Cond.instanceMethod yX5_hasGuess ∈ wsX10_rank := (List.mem_cons_of_mem _ (List.mem_append_left _ (List.mem_append_left _ (List.mem_append_left _ (List.mem_append_left _ (List.mem_append_left _ (List.mem_append_left _ (List.mem_of_getElem? (i := 3) rfl))))))))
theorem inX10_rank_X10 : ∀ w ∈ u_ws RX10 TX10 9, w ∈ wsX10_rank := fun w h => (List.mem_cons_of_mem _ (List.mem_append_left _ (List.mem_append_left _ (List.mem_append_left _ (List.mem_append_left _ (List.mem_append_right _ h))))))
set_option maxHeartbeats 4000000 in
set_option maxRecDepth 100000 in
theorem bkX10_rank {l : Launch} {dC : Nat → ClassId} {dI : Nat → Nat → Nat} {cB cI cJ cZ cS : ClassId} {a b b2 c0 : Nat → Nat} {rg sl : Nat → Option Nat} {as : List Value} {r : Int32} {s' : XS} (s : XS) (x1 : Int32) (hB : kX10_rank s x1 = some (r, s')) : BlkI l yX10_rank wsX10_rank ({ frames := 5, cells := 0, slots := 0, locals := 125 }) cX10_rank 3 (some .int) (dC, dI) (tysA cB cI cJ cZ cS) as 0 (wX cB cI cJ cZ cS a b b2 c0 rg sl s) [(0, .ref (c0 0)), (1, .int x1)] [] (fun x u => x = r ∧ u = (wX cB cI cJ cZ cS a b b2 c0 rg sl s')) := by
  intro p e s0 m below meth c A E H locs ls hP hD hS hl
  obtain ⟨C, hr, hlocks, hA, hK, hN⟩ := id E
  obtain ⟨hx, hb, hml, hown, hts⟩ := id C
  unfold kX10_rank at hB
  refine lv_aload_n hx hb dX10_rank_0 rfl (lv_at hl 0 rfl) ?_
  refine q_get (v := .ref (a 2)) C inX10_rank_X10 hK hP 0 rfl rfl 1 (by decide) rfl LX10_rank_19 rfl dX10_rank_1 ?_
  refine lv_iload_n hx hb dX10_rank_4 rfl (lv_at hl 1 rfl) ?_
  obtain ⟨q_, s1, hc, hB⟩ := bindI_inv hB
  refine q_goi (wr := ((wG cZ cS a b b2 c0 rg sl s.g) ++ (wD cI b2 s.t) ++ (wD cI b s.n))) (va_runVN (As := [.int x1]) (rest := []) C (ckX5_hasGuess hc _) ⟨va_cnB 1 hts gX10_rank_X5_hasGuess_n170 rfl rfl rfl (hN _ nwM_X10_170 rfl) (hts _ LX10_rank_I_X5) (by decide +kernel) ⟨Nat.le_of_ble_eq_true rfl, Nat.le_of_ble_eq_true rfl⟩, hts _ LX10_rank_N_X5_hasGuess, hts _ LX10_rank_E_X5_hasGuess⟩ (q_preV hK hP (ci := 5) (q0 := 19) rfl rfl rfl (q_pre hN hK hP hD [17, 18, 19, 20, 21, 22, 23, 24, 25, 26, 27, 28, 29, 30, 31, 32, 33, 34, 35, 36, 37, 38, 39, 40, 41, 42, 43, 44, 45, 46, 47, 48, 49, 50, 51, 52, 53, 54, 55, 56, 57, 58, 59, 60, 61, 62, 63] (by first | exact zqs_0X | rfl) zqn_0)) rfl rfl hl.1 rfl (lv_room (Nat.le_of_ble_eq_true rfl)) dX10_rank_5 ⟨Nat.le_of_ble_eq_true rfl, Nat.le_of_ble_eq_true rfl⟩) hP hD hS hA [17, 18, 19, 20, 21, 22, 23, 24, 25, 26, 27, 28, 29, 30, 31, 32, 33, 34, 35, 36, 37, 38, 39, 40, 41, 42, 43, 44, 45, 46, 47, 48, 49, 50, 51, 52, 53, 54, 55, 56, 57, 58, 59, 60, 61, 62, 63] [0, 1, 2, 3, 4, 5, 6, 7, 8, 9, 10, 11, 12, 13, 14, 15, 16] (by first | exact zqs_0X | rfl) (by first | exact zqs_1X | rfl) zqn_1 zqd_0 (fun r2 w1 H locs hw hP hD hS => ?_)
  obtain ⟨hq_, hw⟩ := hw; subst hw; subst hq_
  obtain ⟨s3, hs4, hB⟩ := letS_inv hB
  have hP : va_P (dC, dI) vwCl (wX cB cI cJ cZ cS a b b2 c0 rg sl s3) H := by subst hs4; exact hP
  have hD : va_D A (wX cB cI cJ cZ cS a b b2 c0 rg sl s3) := by subst hs4; exact hD
  refine lv_if_ne (tgt := 13) hx hb dX10_rank_8 (by decide) (fun c5 => ?_) (fun c5 => ?_)
  · have hB := if_n hB c5
    refine lv_aload_n hx hb dX10_rank_13 rfl (lv_at hl 0 rfl) ?_
    refine q_get (v := .ref (a 36)) C inX10_rank_X10 hK hP 0 rfl rfl 7 (by decide) rfl LX10_rank_63 rfl dX10_rank_14 ?_
    refine lv_aload_n hx hb dX10_rank_17 rfl (lv_at hl 0 rfl) ?_
    refine q_get (v := .ref (b 0)) C inX10_rank_X10 hK hP 0 rfl rfl 3 (by decide) rfl LX10_rank_35 rfl dX10_rank_18 ?_
    refine lv_iload_n hx hb dX10_rank_21 rfl (lv_at hl 1 rfl) ?_
    obtain ⟨q_, s6, hc, hB⟩ := bindI_inv hB
    refine q_goi (wr := ((wG cZ cS a b b2 c0 rg sl s3.g) ++ (wD cI b2 s3.t))) (va_runVN (As := [.ref (b 0), .int x1]) (rest := []) C (ckX2_oddsOf hc _) ⟨va_cnB 2 hts gX10_rank_X2_oddsOf_n200 rfl rfl rfl (hN _ nwM_X10_200 rfl) (hts _ LX10_rank_I_X2) (by decide +kernel) ⟨Nat.le_of_ble_eq_true rfl, Nat.le_of_ble_eq_true rfl⟩, hts _ LX10_rank_N_X2_oddsOf, hts _ LX10_rank_E_X2_oddsOf⟩ (q_preV hK hP (ci := 2) (q0 := 53) rfl rfl rfl (q_pre hN hK hP hD [11, 12, 13, 14, 15, 16, 17, 18, 19, 20, 21, 22, 23, 24, 25, 26, 27, 28, 29, 30, 31, 32, 33, 34, 35, 36, 37, 38, 39, 40, 41, 42, 43, 44, 45, 46, 47, 48, 49, 50, 51, 52, 53, 54, 55, 56, 57, 58, 59, 60, 61, 62, 63] (by first | exact zqs_2X | rfl) zqn_2)) rfl rfl hl.1 rfl (lv_room (Nat.le_of_ble_eq_true rfl)) dX10_rank_22 ⟨Nat.le_of_ble_eq_true rfl, Nat.le_of_ble_eq_true rfl⟩) hP hD hS hA [11, 12, 13, 14, 15, 16, 17, 18, 19, 20, 21, 22, 23, 24, 25, 26, 27, 28, 29, 30, 31, 32, 33, 34, 35, 36, 37, 38, 39, 40, 41, 42, 43, 44, 45, 46, 47, 48, 49, 50, 51, 52, 53, 54, 55, 56, 57, 58, 59, 60, 61, 62, 63] [0, 1, 2, 3, 4, 5, 6, 7, 8, 9, 10] (by first | exact zqs_2X | rfl) (by first | exact zqs_3X | rfl) zqn_3 zqd_1 (fun r7 w1 H locs hw hP hD hS => ?_)
    obtain ⟨hq_, hw⟩ := hw; subst hw; subst hq_
    obtain ⟨s8, hs9, hB⟩ := letS_inv hB
    have hP : va_P (dC, dI) vwCl (wX cB cI cJ cZ cS a b b2 c0 rg sl s8) H := by subst hs9; exact hP
    have hD : va_D A (wX cB cI cJ cZ cS a b b2 c0 rg sl s8) := by subst hs9; exact hD
    refine lv_istore_n (lv' := [(2, .int r7), (0, .ref (c0 0)), (1, .int x1)]) hx hb dX10_rank_25 rfl hl (by decide) rfl (fun ls hl => ?_)
    refine lv_iload_n hx hb dX10_rank_26 rfl (lv_at hl 0 rfl) ?_
    refine lv_if_ne (tgt := 35) hx hb dX10_rank_27 (by decide) (fun c10 => ?_) (fun c10 => ?_)
    · have hB := if_n hB c10
      refine lv_aload_n hx hb dX10_rank_35 rfl (lv_at hl 1 rfl) ?_
      refine q_get (v := .ref (a 36)) C inX10_rank_X10 hK hP 0 rfl rfl 7 (by decide) rfl LX10_rank_63 rfl dX10_rank_36 ?_
      refine lv_aload_n hx hb dX10_rank_39 rfl (lv_at hl 1 rfl) ?_
      refine q_get (v := .ref (b 0)) C inX10_rank_X10 hK hP 0 rfl rfl 3 (by decide) rfl LX10_rank_35 rfl dX10_rank_40 ?_
      refine lv_iload_n hx hb dX10_rank_43 rfl (lv_at hl 2 rfl) ?_
      refine lv_iload_n hx hb dX10_rank_44 rfl (lv_at hl 0 rfl) ?_
      obtain ⟨q_, s11, hc, hB⟩ := bindI_inv hB
      refine q_goi (wr := ((wG cZ cS a b b2 c0 rg sl s8.g) ++ (wD cI b2 s8.t))) (va_runVN (As := [.ref (b 0), .int x1, .int r7]) (rest := []) C (ckX2_casesAheadOf hc _) ⟨va_cnB 3 hts gX10_rank_X2_casesAheadOf_n221 rfl rfl rfl (hN _ nwM_X10_221 rfl) (hts _ LX10_rank_I_X2) (by decide +kernel) ⟨Nat.le_of_ble_eq_true rfl, Nat.le_of_ble_eq_true rfl⟩, hts _ LX10_rank_N_X2_casesAheadOf, hts _ LX10_rank_E_X2_casesAheadOf⟩ (q_preV hK hP (ci := 2) (q0 := 53) rfl rfl rfl (q_pre hN hK hP hD [11, 12, 13, 14, 15, 16, 17, 18, 19, 20, 21, 22, 23, 24, 25, 26, 27, 28, 29, 30, 31, 32, 33, 34, 35, 36, 37, 38, 39, 40, 41, 42, 43, 44, 45, 46, 47, 48, 49, 50, 51, 52, 53, 54, 55, 56, 57, 58, 59, 60, 61, 62, 63] (by first | exact zqs_2X | rfl) zqn_2)) rfl rfl hl.1 rfl (lv_room (Nat.le_of_ble_eq_true rfl)) dX10_rank_45 ⟨Nat.le_of_ble_eq_true rfl, Nat.le_of_ble_eq_true rfl⟩) hP hD hS hA [11, 12, 13, 14, 15, 16, 17, 18, 19, 20, 21, 22, 23, 24, 25, 26, 27, 28, 29, 30, 31, 32, 33, 34, 35, 36, 37, 38, 39, 40, 41, 42, 43, 44, 45, 46, 47, 48, 49, 50, 51, 52, 53, 54, 55, 56, 57, 58, 59, 60, 61, 62, 63] [0, 1, 2, 3, 4, 5, 6, 7, 8, 9, 10] (by first | exact zqs_2X | rfl) (by first | exact zqs_3X | rfl) zqn_3 zqd_1 (fun r12 w1 H locs hw hP hD hS => ?_)
      obtain ⟨hq_, hw⟩ := hw; subst hw; subst hq_
      obtain ⟨s13, hs14, hB⟩ := letS_inv hB
      have hP : va_P (dC, dI) vwCl (wX cB cI cJ cZ cS a b b2 c0 rg sl s13) H := by subst hs14; exact hP
      have hD : va_D A (wX cB cI cJ cZ cS a b b2 c0 rg sl s13) := by subst hs14; exact hD
      exact q_iret C hr hlocks hK hP hD hS (Nat.le_of_ble_eq_true rfl) (Nat.le_of_ble_eq_true rfl) dX10_rank_48 (by cases hB; exact ⟨rfl, rfl⟩)
    · have hB := if_p hB c10
      refine lv_bipush (v := (-2)) hx hb dX10_rank_30 (by decide) ?_
      refine lv_goto (tgt := 48) hx hb dX10_rank_32 (by decide) ?_
      exact q_iret C hr hlocks hK hP hD hS (Nat.le_of_ble_eq_true rfl) (Nat.le_of_ble_eq_true rfl) dX10_rank_48 (by cases hB; exact ⟨rfl, rfl⟩)
  · have hB := if_p hB c5
    refine lv_iconst (v := (-1)) hx hb dX10_rank_11 (by decide) ?_
    exact q_iret C hr hlocks hK hP hD hS (Nat.le_of_ble_eq_true rfl) (Nat.le_of_ble_eq_true rfl) dX10_rank_12 (by cases hB; exact ⟨rfl, rfl⟩)
theorem ckX10_rank {l : Launch} {dC : Nat → ClassId} {dI : Nat → Nat → Nat} {cB cI cJ cZ cS : ClassId} {a b b2 c0 : Nat → Nat} {rg sl : Nat → Option Nat} {r : Int32} {s' : XS} {s : XS} {x1 : Int32} (hB : kX10_rank s x1 = some (r, s')) : CI l yX10_rank wsX10_rank ({ frames := 5, cells := 0, slots := 0, locals := 125 }) (dC, dI) (tysA cB cI cJ cZ cS) (wX cB cI cJ cZ cS a b b2 c0 rg sl s) [.ref (c0 0), .int x1] (fun x u => x = r ∧ u = (wX cB cI cJ cZ cS a b b2 c0 rg sl s')) :=
  CI_of (cc := cX10_rank) (maxL := 3) (ret := (some .int)) (by decide) rfl (Nat.le_of_ble_eq_true rfl) (bkX10_rank _ _ hB)
theorem LX10_ranked_35 : Cond.fieldLink RX10 35 "GuessFerry" "now" "LGuessFerry$Standing;" ∈ wsX10_ranked := (List.mem_cons_of_mem _ (List.mem_append_left _ (List.mem_append_left _ (List.mem_append_left _ (List.mem_append_left _ (List.mem_append_left _ (List.mem_append_left _ (List.mem_of_getElem? (i := 1) rfl))))))))
theorem LX10_ranked_63 : Cond.fieldLink RX10 63 "GuessFerry" "outlook" "LGuessFerry$Outlook;" ∈ wsX10_ranked := (List.mem_cons_of_mem _ (List.mem_append_left _ (List.mem_append_left _ (List.mem_append_left _ (List.mem_append_left _ (List.mem_append_left _ (List.mem_append_left _ (List.mem_of_getElem? (i := 0) rfl))))))))
theorem LX10_ranked_E_X2_caseAtRank : Cond.selects RX2 yX2_caseAtRank yX2_caseAtRank ∈ wsX10_ranked := (List.mem_cons_of_mem _ (List.mem_append_left _ (List.mem_append_left _ (List.mem_append_left _ (List.mem_append_left _ (List.mem_append_left _ (List.mem_append_left _ (List.mem_of_getElem? (i := 4) rfl))))))))
theorem LX10_ranked_I_X2 : Cond.initialized RX2 ∈ wsX10_ranked := (List.mem_cons_of_mem _ (List.mem_append_left _ (List.mem_append_left _ (List.mem_append_left _ (List.mem_append_left _ (List.mem_append_left _ (List.mem_append_left _ (List.mem_of_getElem? (i := 3) rfl))))))))
theorem LX10_ranked_N_X2_caseAtRank : Cond.instanceMethod yX2_caseAtRank ∈ wsX10_ranked := (List.mem_cons_of_mem _ (List.mem_append_left _ (List.mem_append_left _ (List.mem_append_left _ (List.mem_append_left _ (List.mem_append_left _ (List.mem_append_left _ (List.mem_of_getElem? (i := 2) rfl))))))))
theorem inX10_ranked_X10 : ∀ w ∈ u_ws RX10 TX10 9, w ∈ wsX10_ranked := fun w h => (List.mem_cons_of_mem _ (List.mem_append_left _ (List.mem_append_left _ (List.mem_append_left _ (List.mem_append_left _ (List.mem_append_right _ h))))))
set_option maxHeartbeats 4000000 in
set_option maxRecDepth 100000 in
theorem bkX10_ranked {l : Launch} {dC : Nat → ClassId} {dI : Nat → Nat → Nat} {cB cI cJ cZ cS : ClassId} {a b b2 c0 : Nat → Nat} {rg sl : Nat → Option Nat} {as : List Value} {r : Int32} {s' : XS} (s : XS) (x1 : Int32) (hB : kX10_ranked s x1 = some (r, s')) : BlkI l yX10_ranked wsX10_ranked ({ frames := 5, cells := 0, slots := 0, locals := 123 }) cX10_ranked 2 (some .int) (dC, dI) (tysA cB cI cJ cZ cS) as 0 (wX cB cI cJ cZ cS a b b2 c0 rg sl s) [(0, .ref (c0 0)), (1, .int x1)] [] (fun x u => x = r ∧ u = (wX cB cI cJ cZ cS a b b2 c0 rg sl s')) := by
  intro p e s0 m below meth c A E H locs ls hP hD hS hl
  obtain ⟨C, hr, hlocks, hA, hK, hN⟩ := id E
  obtain ⟨hx, hb, hml, hown, hts⟩ := id C
  unfold kX10_ranked at hB
  refine lv_iload_n hx hb dX10_ranked_0 rfl (lv_at hl 1 rfl) ?_
  refine lv_if_lt (tgt := 10) hx hb dX10_ranked_1 (by decide) (fun c1 => ?_) (fun c1 => ?_)
  · have hB := if_p hB c1
    refine lv_iconst (v := (-1)) hx hb dX10_ranked_10 (by decide) ?_
    refine lv_goto (tgt := 26) hx hb dX10_ranked_11 (by decide) ?_
    exact q_iret C hr hlocks hK hP hD hS (Nat.le_of_ble_eq_true rfl) (Nat.le_of_ble_eq_true rfl) dX10_ranked_26 (by cases hB; exact ⟨rfl, rfl⟩)
  · have hB := if_n hB c1
    refine lv_iload_n hx hb dX10_ranked_4 rfl (lv_at hl 1 rfl) ?_
    refine lv_bipush (v := 20) hx hb dX10_ranked_5 (by decide) ?_
    refine lv_icmp_lt (tgt := 14) hx hb dX10_ranked_7 (by decide) (fun c2 => ?_) (fun c2 => ?_)
    · have hB := if_p hB c2
      refine lv_aload_n hx hb dX10_ranked_14 rfl (lv_at hl 0 rfl) ?_
      refine q_get (v := .ref (a 36)) C inX10_ranked_X10 hK hP 0 rfl rfl 7 (by decide) rfl LX10_ranked_63 rfl dX10_ranked_15 ?_
      refine lv_aload_n hx hb dX10_ranked_18 rfl (lv_at hl 0 rfl) ?_
      refine q_get (v := .ref (b 0)) C inX10_ranked_X10 hK hP 0 rfl rfl 3 (by decide) rfl LX10_ranked_35 rfl dX10_ranked_19 ?_
      refine lv_iload_n hx hb dX10_ranked_22 rfl (lv_at hl 1 rfl) ?_
      obtain ⟨q_, s3, hc, hB⟩ := bindI_inv hB
      refine q_goi (wr := ((wG cZ cS a b b2 c0 rg sl s.g) ++ (wD cI b2 s.t))) (va_runVN (As := [.ref (b 0), .int x1]) (rest := []) C (ckX2_caseAtRank hc _) ⟨va_cnB 2 hts gX10_ranked_X2_caseAtRank_n224 rfl rfl rfl (hN _ nwM_X10_224 rfl) (hts _ LX10_ranked_I_X2) (by decide +kernel) ⟨Nat.le_of_ble_eq_true rfl, Nat.le_of_ble_eq_true rfl⟩, hts _ LX10_ranked_N_X2_caseAtRank, hts _ LX10_ranked_E_X2_caseAtRank⟩ (q_preV hK hP (ci := 2) (q0 := 53) rfl rfl rfl (q_pre hN hK hP hD [11, 12, 13, 14, 15, 16, 17, 18, 19, 20, 21, 22, 23, 24, 25, 26, 27, 28, 29, 30, 31, 32, 33, 34, 35, 36, 37, 38, 39, 40, 41, 42, 43, 44, 45, 46, 47, 48, 49, 50, 51, 52, 53, 54, 55, 56, 57, 58, 59, 60, 61, 62, 63] (by first | exact zqs_2X | rfl) zqn_2)) rfl rfl hl.1 rfl (lv_room (Nat.le_of_ble_eq_true rfl)) dX10_ranked_23 ⟨Nat.le_of_ble_eq_true rfl, Nat.le_of_ble_eq_true rfl⟩) hP hD hS hA [11, 12, 13, 14, 15, 16, 17, 18, 19, 20, 21, 22, 23, 24, 25, 26, 27, 28, 29, 30, 31, 32, 33, 34, 35, 36, 37, 38, 39, 40, 41, 42, 43, 44, 45, 46, 47, 48, 49, 50, 51, 52, 53, 54, 55, 56, 57, 58, 59, 60, 61, 62, 63] [0, 1, 2, 3, 4, 5, 6, 7, 8, 9, 10] (by first | exact zqs_2X | rfl) (by first | exact zqs_3X | rfl) zqn_3 zqd_1 (fun r4 w1 H locs hw hP hD hS => ?_)
      obtain ⟨hq_, hw⟩ := hw; subst hw; subst hq_
      obtain ⟨s5, hs6, hB⟩ := letS_inv hB
      have hP : va_P (dC, dI) vwCl (wX cB cI cJ cZ cS a b b2 c0 rg sl s5) H := by subst hs6; exact hP
      have hD : va_D A (wX cB cI cJ cZ cS a b b2 c0 rg sl s5) := by subst hs6; exact hD
      exact q_iret C hr hlocks hK hP hD hS (Nat.le_of_ble_eq_true rfl) (Nat.le_of_ble_eq_true rfl) dX10_ranked_26 (by cases hB; exact ⟨rfl, rfl⟩)
    · have hB := if_n hB c2
      refine lv_iconst (v := (-1)) hx hb dX10_ranked_10 (by decide) ?_
      refine lv_goto (tgt := 26) hx hb dX10_ranked_11 (by decide) ?_
      exact q_iret C hr hlocks hK hP hD hS (Nat.le_of_ble_eq_true rfl) (Nat.le_of_ble_eq_true rfl) dX10_ranked_26 (by cases hB; exact ⟨rfl, rfl⟩)
theorem ckX10_ranked {l : Launch} {dC : Nat → ClassId} {dI : Nat → Nat → Nat} {cB cI cJ cZ cS : ClassId} {a b b2 c0 : Nat → Nat} {rg sl : Nat → Option Nat} {r : Int32} {s' : XS} {s : XS} {x1 : Int32} (hB : kX10_ranked s x1 = some (r, s')) : CI l yX10_ranked wsX10_ranked ({ frames := 5, cells := 0, slots := 0, locals := 123 }) (dC, dI) (tysA cB cI cJ cZ cS) (wX cB cI cJ cZ cS a b b2 c0 rg sl s) [.ref (c0 0), .int x1] (fun x u => x = r ∧ u = (wX cB cI cJ cZ cS a b b2 c0 rg sl s')) :=
  CI_of (cc := cX10_ranked) (maxL := 2) (ret := (some .int)) (by decide) rfl (Nat.le_of_ble_eq_true rfl) (bkX10_ranked _ _ hB)
theorem LX10_alike_19 : Cond.fieldLink RX10 19 "GuessFerry" "sound" "LGuessFerry$Sound;" ∈ wsX10_alike := (List.mem_cons_of_mem _ (List.mem_append_left _ (List.mem_append_left _ (List.mem_append_left _ (List.mem_of_getElem? (i := 0) rfl)))))
theorem LX10_alike_E_X5_hasGuess : Cond.selects RX5 yX5_hasGuess yX5_hasGuess ∈ wsX10_alike := (List.mem_cons_of_mem _ (List.mem_append_left _ (List.mem_append_left _ (List.mem_append_left _ (List.mem_of_getElem? (i := 3) rfl)))))
theorem LX10_alike_I_X5 : Cond.initialized RX5 ∈ wsX10_alike := (List.mem_cons_of_mem _ (List.mem_append_left _ (List.mem_append_left _ (List.mem_append_left _ (List.mem_of_getElem? (i := 2) rfl)))))
theorem LX10_alike_N_X5_hasGuess : Cond.instanceMethod yX5_hasGuess ∈ wsX10_alike := (List.mem_cons_of_mem _ (List.mem_append_left _ (List.mem_append_left _ (List.mem_append_left _ (List.mem_of_getElem? (i := 1) rfl)))))
theorem inX10_alike_X10 : ∀ w ∈ u_ws RX10 TX10 9, w ∈ wsX10_alike := fun w h => (List.mem_cons_of_mem _ (List.mem_append_left _ (List.mem_append_right _ h)))
theorem inX10_alike_X5 : ∀ w ∈ u_ws RX5 TX5 10, w ∈ wsX10_alike := fun w h => (List.mem_cons_of_mem _ (List.mem_append_right _ h))
set_option maxHeartbeats 4000000 in
set_option maxRecDepth 100000 in
theorem bkX10_alike_26 {l : Launch} {dC : Nat → ClassId} {dI : Nat → Nat → Nat} {cB cI cJ cZ cS : ClassId} {a b b2 c0 : Nat → Nat} {rg sl : Nat → Option Nat} {as : List Value} {r : Int32} {s' : XS} {k26 : XS → Int32 → Int32 → Int32 → Option (Int32 × XS)} (hk26 : ∀ (s : XS) (x1 : Int32) (x2 : Int32) (x3 : Int32), k26 s x1 x2 x3 = some (r, s') → BlkI l yX10_alike wsX10_alike ({ frames := 1, cells := 0, slots := 0, locals := 23 }) cX10_alike 4 (some .int) (dC, dI) (tysA cB cI cJ cZ cS) as 26 (wX cB cI cJ cZ cS a b b2 c0 rg sl s) [(0, .ref (c0 0)), (1, .int x1), (2, .int x2), (3, .int x3)] [] (fun x u => x = r ∧ u = (wX cB cI cJ cZ cS a b b2 c0 rg sl s'))) (s : XS) (x1 : Int32) (x2 : Int32) (x3 : Int32) (hB : kX10_alike_26 k26 s x1 x2 x3 = some (r, s')) : BlkI l yX10_alike wsX10_alike ({ frames := 1, cells := 0, slots := 0, locals := 23 }) cX10_alike 4 (some .int) (dC, dI) (tysA cB cI cJ cZ cS) as 26 (wX cB cI cJ cZ cS a b b2 c0 rg sl s) [(0, .ref (c0 0)), (1, .int x1), (2, .int x2), (3, .int x3)] [] (fun x u => x = r ∧ u = (wX cB cI cJ cZ cS a b b2 c0 rg sl s')) := by
  intro p e s0 m below meth c A E H locs ls hP hD hS hl
  obtain ⟨C, hr, hlocks, hA, hK, hN⟩ := id E
  obtain ⟨hx, hb, hml, hown, hts⟩ := id C
  unfold kX10_alike_26 at hB
  refine lv_iload_n hx hb dX10_alike_26 rfl (lv_at hl 3 rfl) ?_
  refine lv_aload_n hx hb dX10_alike_27 rfl (lv_at hl 0 rfl) ?_
  refine q_get (v := .ref (a 2)) C inX10_alike_X10 hK hP 0 rfl rfl 1 (by decide) rfl LX10_alike_19 rfl dX10_alike_28 ?_
  refine q_getN (v := .int (s.k.v 1)) C hN inX10_alike_X5 hK hP 19 rfl rfl 6 (by decide) rfl nwF_X10_167 rfl dX10_alike_31 ?_
  refine lv_icmp_ge (tgt := 56) hx hb dX10_alike_34 (by decide) (fun c1 => ?_) (fun c1 => ?_)
  · have hB := if_p hB c1
    refine lv_iload_n hx hb dX10_alike_56 rfl (lv_at hl 3 rfl) ?_
    exact q_iret C hr hlocks hK hP hD hS (Nat.le_of_ble_eq_true rfl) (Nat.le_of_ble_eq_true rfl) dX10_alike_57 (by cases hB; exact ⟨rfl, rfl⟩)
  · have hB := if_n hB c1
    refine lv_iload_n hx hb dX10_alike_37 rfl (lv_at hl 1 rfl) ?_
    refine lv_iload_n hx hb dX10_alike_38 rfl (lv_at hl 3 rfl) ?_
    obtain ⟨q_, hc, hB⟩ := bindP_inv hB
    refine q_goi0 (va_runS (As := [.int x1, .int x3]) (rest := []) C (ckX10_thingIn hc _) (va_cwS 2 hts gX10_alike_X10_thingIn rfl rfl rfl (by decide +kernel) ⟨Nat.le_of_ble_eq_true rfl, Nat.le_of_ble_eq_true rfl⟩) (q_pre0 hN hK) rfl rfl hl.1 rfl (lv_room (Nat.le_of_ble_eq_true rfl)) dX10_alike_39 ⟨Nat.le_of_ble_eq_true rfl, Nat.le_of_ble_eq_true rfl⟩) hP hD hS hA (fun r2 w1 H locs hw hP hS => ?_)
    subst hw
    refine lv_iload_n hx hb dX10_alike_42 rfl (lv_at hl 2 rfl) ?_
    refine lv_iload_n hx hb dX10_alike_43 rfl (lv_at hl 3 rfl) ?_
    obtain ⟨q_, hc, hB⟩ := bindP_inv hB
    refine q_goi0 (va_runS (As := [.int x2, .int x3]) (rest := [.int r2]) C (ckX10_thingIn hc _) (va_cwS 2 hts gX10_alike_X10_thingIn rfl rfl rfl (by decide +kernel) ⟨Nat.le_of_ble_eq_true rfl, Nat.le_of_ble_eq_true rfl⟩) (q_pre0 hN hK) rfl rfl hl.1 rfl (lv_room (Nat.le_of_ble_eq_true rfl)) dX10_alike_44 ⟨Nat.le_of_ble_eq_true rfl, Nat.le_of_ble_eq_true rfl⟩) hP hD hS hA (fun r3 w1 H locs hw hP hS => ?_)
    subst hw
    refine lv_icmp_ne (tgt := 56) hx hb dX10_alike_47 (by decide) (fun c4 => ?_) (fun c4 => ?_)
    · have hB := if_n hB c4
      refine lv_iload_n hx hb dX10_alike_56 rfl (lv_at hl 3 rfl) ?_
      exact q_iret C hr hlocks hK hP hD hS (Nat.le_of_ble_eq_true rfl) (Nat.le_of_ble_eq_true rfl) dX10_alike_57 (by cases hB; exact ⟨rfl, rfl⟩)
    · have hB := if_p hB c4
      refine lv_iinc (v := (x3 + 1)) (lv' := [(3, .int (x3 + 1)), (0, .ref (c0 0)), (1, .int x1), (2, .int x2)]) hx hb dX10_alike_50 hl (k := 3) rfl (rfl) (by decide) rfl (fun ls hl => ?_)
      refine lv_goto (tgt := 26) hx hb dX10_alike_53 (by decide) ?_
      exact hk26 _ _ _ _ hB p e s0 m below meth c A E H locs ls hP hD hS (lv_sub hl [1, 2, 3, 0] rfl)
theorem bkX10_alike_26L {l : Launch} {dC : Nat → ClassId} {dI : Nat → Nat → Nat} {cB cI cJ cZ cS : ClassId} {a b b2 c0 : Nat → Nat} {rg sl : Nat → Option Nat} {as : List Value} {r : Int32} {s' : XS} : ∀ (n : Nat) (s : XS) (x1 : Int32) (x2 : Int32) (x3 : Int32), kX10_alike_26L n s x1 x2 x3 = some (r, s') → BlkI l yX10_alike wsX10_alike ({ frames := 1, cells := 0, slots := 0, locals := 23 }) cX10_alike 4 (some .int) (dC, dI) (tysA cB cI cJ cZ cS) as 26 (wX cB cI cJ cZ cS a b b2 c0 rg sl s) [(0, .ref (c0 0)), (1, .int x1), (2, .int x2), (3, .int x3)] [] (fun x u => x = r ∧ u = (wX cB cI cJ cZ cS a b b2 c0 rg sl s')) := by
  intro n
  induction n with
  | zero => intro s x1 x2 x3 hB; exact none_ne hB
  | succ n ih => intro s x1 x2 x3 hB; exact bkX10_alike_26 ih _ _ _ _ hB
set_option maxHeartbeats 4000000 in
set_option maxRecDepth 100000 in
theorem bkX10_alike {l : Launch} {dC : Nat → ClassId} {dI : Nat → Nat → Nat} {cB cI cJ cZ cS : ClassId} {a b b2 c0 : Nat → Nat} {rg sl : Nat → Option Nat} {as : List Value} {r : Int32} {s' : XS} (s : XS) (x1 : Int32) (x2 : Int32) (hB : kX10_alike s x1 x2 = some (r, s')) : BlkI l yX10_alike wsX10_alike ({ frames := 1, cells := 0, slots := 0, locals := 23 }) cX10_alike 4 (some .int) (dC, dI) (tysA cB cI cJ cZ cS) as 0 (wX cB cI cJ cZ cS a b b2 c0 rg sl s) [(0, .ref (c0 0)), (1, .int x1), (2, .int x2)] [] (fun x u => x = r ∧ u = (wX cB cI cJ cZ cS a b b2 c0 rg sl s')) := by
  intro p e s0 m below meth c A E H locs ls hP hD hS hl
  obtain ⟨C, hr, hlocks, hA, hK, hN⟩ := id E
  obtain ⟨hx, hb, hml, hown, hts⟩ := id C
  unfold kX10_alike at hB
  refine lv_aload_n hx hb dX10_alike_0 rfl (lv_at hl 0 rfl) ?_
  refine q_get (v := .ref (a 2)) C inX10_alike_X10 hK hP 0 rfl rfl 1 (by decide) rfl LX10_alike_19 rfl dX10_alike_1 ?_
  refine lv_iload_n hx hb dX10_alike_4 rfl (lv_at hl 1 rfl) ?_
  obtain ⟨q_, s1, hc, hB⟩ := bindI_inv hB
  refine q_goi (wr := ((wG cZ cS a b b2 c0 rg sl s.g) ++ (wD cI b2 s.t) ++ (wD cI b s.n))) (va_runVN (As := [.int x1]) (rest := []) C (ckX5_hasGuess hc _) ⟨va_cnB 1 hts gX10_alike_X5_hasGuess_n170 rfl rfl rfl (hN _ nwM_X10_170 rfl) (hts _ LX10_alike_I_X5) (by decide +kernel) ⟨Nat.le_of_ble_eq_true rfl, Nat.le_of_ble_eq_true rfl⟩, hts _ LX10_alike_N_X5_hasGuess, hts _ LX10_alike_E_X5_hasGuess⟩ (q_preV hK hP (ci := 5) (q0 := 19) rfl rfl rfl (q_pre hN hK hP hD [17, 18, 19, 20, 21, 22, 23, 24, 25, 26, 27, 28, 29, 30, 31, 32, 33, 34, 35, 36, 37, 38, 39, 40, 41, 42, 43, 44, 45, 46, 47, 48, 49, 50, 51, 52, 53, 54, 55, 56, 57, 58, 59, 60, 61, 62, 63] (by first | exact zqs_0X | rfl) zqn_0)) rfl rfl hl.1 rfl (lv_room (Nat.le_of_ble_eq_true rfl)) dX10_alike_5 ⟨Nat.le_of_ble_eq_true rfl, Nat.le_of_ble_eq_true rfl⟩) hP hD hS hA [17, 18, 19, 20, 21, 22, 23, 24, 25, 26, 27, 28, 29, 30, 31, 32, 33, 34, 35, 36, 37, 38, 39, 40, 41, 42, 43, 44, 45, 46, 47, 48, 49, 50, 51, 52, 53, 54, 55, 56, 57, 58, 59, 60, 61, 62, 63] [0, 1, 2, 3, 4, 5, 6, 7, 8, 9, 10, 11, 12, 13, 14, 15, 16] (by first | exact zqs_0X | rfl) (by first | exact zqs_1X | rfl) zqn_1 zqd_0 (fun r2 w1 H locs hw hP hD hS => ?_)
  obtain ⟨hq_, hw⟩ := hw; subst hw; subst hq_
  obtain ⟨s3, hs4, hB⟩ := letS_inv hB
  have hP : va_P (dC, dI) vwCl (wX cB cI cJ cZ cS a b b2 c0 rg sl s3) H := by subst hs4; exact hP
  have hD : va_D A (wX cB cI cJ cZ cS a b b2 c0 rg sl s3) := by subst hs4; exact hD
  refine lv_if_eq (tgt := 22) hx hb dX10_alike_8 (by decide) (fun c5 => ?_) (fun c5 => ?_)
  · have hB := if_p hB c5
    refine lv_iconst (v := (-1)) hx hb dX10_alike_22 (by decide) ?_
    exact q_iret C hr hlocks hK hP hD hS (Nat.le_of_ble_eq_true rfl) (Nat.le_of_ble_eq_true rfl) dX10_alike_23 (by cases hB; exact ⟨rfl, rfl⟩)
  · have hB := if_n hB c5
    refine lv_aload_n hx hb dX10_alike_11 rfl (lv_at hl 0 rfl) ?_
    refine q_get (v := .ref (a 2)) C inX10_alike_X10 hK hP 0 rfl rfl 1 (by decide) rfl LX10_alike_19 rfl dX10_alike_12 ?_
    refine lv_iload_n hx hb dX10_alike_15 rfl (lv_at hl 2 rfl) ?_
    obtain ⟨q_, s6, hc, hB⟩ := bindI_inv hB
    refine q_goi (wr := ((wG cZ cS a b b2 c0 rg sl s3.g) ++ (wD cI b2 s3.t) ++ (wD cI b s3.n))) (va_runVN (As := [.int x2]) (rest := []) C (ckX5_hasGuess hc _) ⟨va_cnB 1 hts gX10_alike_X5_hasGuess_n170 rfl rfl rfl (hN _ nwM_X10_170 rfl) (hts _ LX10_alike_I_X5) (by decide +kernel) ⟨Nat.le_of_ble_eq_true rfl, Nat.le_of_ble_eq_true rfl⟩, hts _ LX10_alike_N_X5_hasGuess, hts _ LX10_alike_E_X5_hasGuess⟩ (q_preV hK hP (ci := 5) (q0 := 19) rfl rfl rfl (q_pre hN hK hP hD [17, 18, 19, 20, 21, 22, 23, 24, 25, 26, 27, 28, 29, 30, 31, 32, 33, 34, 35, 36, 37, 38, 39, 40, 41, 42, 43, 44, 45, 46, 47, 48, 49, 50, 51, 52, 53, 54, 55, 56, 57, 58, 59, 60, 61, 62, 63] (by first | exact zqs_0X | rfl) zqn_0)) rfl rfl hl.1 rfl (lv_room (Nat.le_of_ble_eq_true rfl)) dX10_alike_16 ⟨Nat.le_of_ble_eq_true rfl, Nat.le_of_ble_eq_true rfl⟩) hP hD hS hA [17, 18, 19, 20, 21, 22, 23, 24, 25, 26, 27, 28, 29, 30, 31, 32, 33, 34, 35, 36, 37, 38, 39, 40, 41, 42, 43, 44, 45, 46, 47, 48, 49, 50, 51, 52, 53, 54, 55, 56, 57, 58, 59, 60, 61, 62, 63] [0, 1, 2, 3, 4, 5, 6, 7, 8, 9, 10, 11, 12, 13, 14, 15, 16] (by first | exact zqs_0X | rfl) (by first | exact zqs_1X | rfl) zqn_1 zqd_0 (fun r7 w1 H locs hw hP hD hS => ?_)
    obtain ⟨hq_, hw⟩ := hw; subst hw; subst hq_
    obtain ⟨s8, hs9, hB⟩ := letS_inv hB
    have hP : va_P (dC, dI) vwCl (wX cB cI cJ cZ cS a b b2 c0 rg sl s8) H := by subst hs9; exact hP
    have hD : va_D A (wX cB cI cJ cZ cS a b b2 c0 rg sl s8) := by subst hs9; exact hD
    refine lv_if_ne (tgt := 24) hx hb dX10_alike_19 (by decide) (fun c10 => ?_) (fun c10 => ?_)
    · have hB := if_n hB c10
      refine lv_iconst (v := 0) hx hb dX10_alike_24 (by decide) ?_
      refine lv_istore_n (lv' := [(3, .int 0), (0, .ref (c0 0)), (1, .int x1), (2, .int x2)]) hx hb dX10_alike_25 rfl hl (by decide) rfl (fun ls hl => ?_)
      exact bkX10_alike_26L fu _ _ _ _ hB p e s0 m below meth c A E H locs ls hP hD hS (lv_sub hl [1, 2, 3, 0] rfl)
    · have hB := if_p hB c10
      refine lv_iconst (v := (-1)) hx hb dX10_alike_22 (by decide) ?_
      exact q_iret C hr hlocks hK hP hD hS (Nat.le_of_ble_eq_true rfl) (Nat.le_of_ble_eq_true rfl) dX10_alike_23 (by cases hB; exact ⟨rfl, rfl⟩)
theorem ckX10_alike {l : Launch} {dC : Nat → ClassId} {dI : Nat → Nat → Nat} {cB cI cJ cZ cS : ClassId} {a b b2 c0 : Nat → Nat} {rg sl : Nat → Option Nat} {r : Int32} {s' : XS} {s : XS} {x1 : Int32} {x2 : Int32} (hB : kX10_alike s x1 x2 = some (r, s')) : CI l yX10_alike wsX10_alike ({ frames := 1, cells := 0, slots := 0, locals := 23 }) (dC, dI) (tysA cB cI cJ cZ cS) (wX cB cI cJ cZ cS a b b2 c0 rg sl s) [.ref (c0 0), .int x1, .int x2] (fun x u => x = r ∧ u = (wX cB cI cJ cZ cS a b b2 c0 rg sl s')) :=
  CI_of (cc := cX10_alike) (maxL := 4) (ret := (some .int)) (by decide) rfl (Nat.le_of_ble_eq_true rfl) (bkX10_alike _ _ _ hB)
theorem LX10_spread_19 : Cond.fieldLink RX10 19 "GuessFerry" "sound" "LGuessFerry$Sound;" ∈ wsX10_spread := (List.mem_cons_of_mem _ (List.mem_append_left _ (List.mem_append_left _ (List.mem_append_left _ (List.mem_append_left _ (List.mem_append_left _ (List.mem_append_left _ (List.mem_of_getElem? (i := 0) rfl))))))))
theorem LX10_spread_35 : Cond.fieldLink RX10 35 "GuessFerry" "now" "LGuessFerry$Standing;" ∈ wsX10_spread := (List.mem_cons_of_mem _ (List.mem_append_left _ (List.mem_append_left _ (List.mem_append_left _ (List.mem_append_left _ (List.mem_append_left _ (List.mem_append_left _ (List.mem_of_getElem? (i := 2) rfl))))))))
theorem LX10_spread_63 : Cond.fieldLink RX10 63 "GuessFerry" "outlook" "LGuessFerry$Outlook;" ∈ wsX10_spread := (List.mem_cons_of_mem _ (List.mem_append_left _ (List.mem_append_left _ (List.mem_append_left _ (List.mem_append_left _ (List.mem_append_left _ (List.mem_append_left _ (List.mem_of_getElem? (i := 1) rfl))))))))
theorem LX10_spread_E_X2_oddsApart : Cond.selects RX2 yX2_oddsApart yX2_oddsApart ∈ wsX10_spread := (List.mem_cons_of_mem _ (List.mem_append_left _ (List.mem_append_left _ (List.mem_append_left _ (List.mem_append_left _ (List.mem_append_left _ (List.mem_append_left _ (List.mem_of_getElem? (i := 8) rfl))))))))
theorem LX10_spread_E_X5_hasWave : Cond.selects RX5 yX5_hasWave yX5_hasWave ∈ wsX10_spread := (List.mem_cons_of_mem _ (List.mem_append_left _ (List.mem_append_left _ (List.mem_append_left _ (List.mem_append_left _ (List.mem_append_left _ (List.mem_append_left _ (List.mem_of_getElem? (i := 5) rfl))))))))
theorem LX10_spread_I_X2 : Cond.initialized RX2 ∈ wsX10_spread := (List.mem_cons_of_mem _ (List.mem_append_left _ (List.mem_append_left _ (List.mem_append_left _ (List.mem_append_left _ (List.mem_append_left _ (List.mem_append_left _ (List.mem_of_getElem? (i := 7) rfl))))))))
theorem LX10_spread_I_X5 : Cond.initialized RX5 ∈ wsX10_spread := (List.mem_cons_of_mem _ (List.mem_append_left _ (List.mem_append_left _ (List.mem_append_left _ (List.mem_append_left _ (List.mem_append_left _ (List.mem_append_left _ (List.mem_of_getElem? (i := 4) rfl))))))))
theorem LX10_spread_N_X2_oddsApart : Cond.instanceMethod yX2_oddsApart ∈ wsX10_spread := (List.mem_cons_of_mem _ (List.mem_append_left _ (List.mem_append_left _ (List.mem_append_left _ (List.mem_append_left _ (List.mem_append_left _ (List.mem_append_left _ (List.mem_of_getElem? (i := 6) rfl))))))))
theorem LX10_spread_N_X5_hasWave : Cond.instanceMethod yX5_hasWave ∈ wsX10_spread := (List.mem_cons_of_mem _ (List.mem_append_left _ (List.mem_append_left _ (List.mem_append_left _ (List.mem_append_left _ (List.mem_append_left _ (List.mem_append_left _ (List.mem_of_getElem? (i := 3) rfl))))))))
theorem inX10_spread_X10 : ∀ w ∈ u_ws RX10 TX10 9, w ∈ wsX10_spread := fun w h => (List.mem_cons_of_mem _ (List.mem_append_left _ (List.mem_append_left _ (List.mem_append_left _ (List.mem_append_left _ (List.mem_append_right _ h))))))
set_option maxHeartbeats 4000000 in
set_option maxRecDepth 100000 in
theorem bkX10_spread {l : Launch} {dC : Nat → ClassId} {dI : Nat → Nat → Nat} {cB cI cJ cZ cS : ClassId} {a b b2 c0 : Nat → Nat} {rg sl : Nat → Option Nat} {as : List Value} {r : Int32} {s' : XS} (s : XS) (x1 : Int32) (hB : kX10_spread s x1 = some (r, s')) : BlkI l yX10_spread wsX10_spread ({ frames := 3, cells := 0, slots := 0, locals := 71 }) cX10_spread 2 (some .int) (dC, dI) (tysA cB cI cJ cZ cS) as 0 (wX cB cI cJ cZ cS a b b2 c0 rg sl s) [(0, .ref (c0 0)), (1, .int x1)] [] (fun x u => x = r ∧ u = (wX cB cI cJ cZ cS a b b2 c0 rg sl s')) := by
  intro p e s0 m below meth c A E H locs ls hP hD hS hl
  obtain ⟨C, hr, hlocks, hA, hK, hN⟩ := id E
  obtain ⟨hx, hb, hml, hown, hts⟩ := id C
  unfold kX10_spread at hB
  refine lv_aload_n hx hb dX10_spread_0 rfl (lv_at hl 0 rfl) ?_
  refine q_get (v := .ref (a 2)) C inX10_spread_X10 hK hP 0 rfl rfl 1 (by decide) rfl LX10_spread_19 rfl dX10_spread_1 ?_
  refine lv_iload_n hx hb dX10_spread_4 rfl (lv_at hl 1 rfl) ?_
  obtain ⟨q_, s1, hc, hB⟩ := bindI_inv hB
  refine q_goi (wr := ((wG cZ cS a b b2 c0 rg sl s.g) ++ (wD cI b2 s.t) ++ (wD cI b s.n))) (va_runVN (As := [.int x1]) (rest := []) C (ckX5_hasWave hc _) ⟨va_cnB 1 hts gX10_spread_X5_hasWave_n108 rfl rfl rfl (hN _ nwM_X10_108 rfl) (hts _ LX10_spread_I_X5) (by decide +kernel) ⟨Nat.le_of_ble_eq_true rfl, Nat.le_of_ble_eq_true rfl⟩, hts _ LX10_spread_N_X5_hasWave, hts _ LX10_spread_E_X5_hasWave⟩ (q_preV hK hP (ci := 5) (q0 := 19) rfl rfl rfl (q_pre hN hK hP hD [17, 18, 19, 20, 21, 22, 23, 24, 25, 26, 27, 28, 29, 30, 31, 32, 33, 34, 35, 36, 37, 38, 39, 40, 41, 42, 43, 44, 45, 46, 47, 48, 49, 50, 51, 52, 53, 54, 55, 56, 57, 58, 59, 60, 61, 62, 63] (by first | exact zqs_0X | rfl) zqn_0)) rfl rfl hl.1 rfl (lv_room (Nat.le_of_ble_eq_true rfl)) dX10_spread_5 ⟨Nat.le_of_ble_eq_true rfl, Nat.le_of_ble_eq_true rfl⟩) hP hD hS hA [17, 18, 19, 20, 21, 22, 23, 24, 25, 26, 27, 28, 29, 30, 31, 32, 33, 34, 35, 36, 37, 38, 39, 40, 41, 42, 43, 44, 45, 46, 47, 48, 49, 50, 51, 52, 53, 54, 55, 56, 57, 58, 59, 60, 61, 62, 63] [0, 1, 2, 3, 4, 5, 6, 7, 8, 9, 10, 11, 12, 13, 14, 15, 16] (by first | exact zqs_0X | rfl) (by first | exact zqs_1X | rfl) zqn_1 zqd_0 (fun r2 w1 H locs hw hP hD hS => ?_)
  obtain ⟨hq_, hw⟩ := hw; subst hw; subst hq_
  obtain ⟨s3, hs4, hB⟩ := letS_inv hB
  have hP : va_P (dC, dI) vwCl (wX cB cI cJ cZ cS a b b2 c0 rg sl s3) H := by subst hs4; exact hP
  have hD : va_D A (wX cB cI cJ cZ cS a b b2 c0 rg sl s3) := by subst hs4; exact hD
  refine lv_if_eq (tgt := 26) hx hb dX10_spread_8 (by decide) (fun c5 => ?_) (fun c5 => ?_)
  · have hB := if_p hB c5
    refine lv_iconst (v := (-1)) hx hb dX10_spread_26 (by decide) ?_
    exact q_iret C hr hlocks hK hP hD hS (Nat.le_of_ble_eq_true rfl) (Nat.le_of_ble_eq_true rfl) dX10_spread_27 (by cases hB; exact ⟨rfl, rfl⟩)
  · have hB := if_n hB c5
    refine lv_aload_n hx hb dX10_spread_11 rfl (lv_at hl 0 rfl) ?_
    refine q_get (v := .ref (a 36)) C inX10_spread_X10 hK hP 0 rfl rfl 7 (by decide) rfl LX10_spread_63 rfl dX10_spread_12 ?_
    refine lv_aload_n hx hb dX10_spread_15 rfl (lv_at hl 0 rfl) ?_
    refine q_get (v := .ref (b 0)) C inX10_spread_X10 hK hP 0 rfl rfl 3 (by decide) rfl LX10_spread_35 rfl dX10_spread_16 ?_
    refine lv_iload_n hx hb dX10_spread_19 rfl (lv_at hl 1 rfl) ?_
    obtain ⟨q_, s6, hc, hB⟩ := bindI_inv hB
    refine q_goi (wr := ((wG cZ cS a b b2 c0 rg sl s3.g) ++ (wD cI b2 s3.t))) (va_runVN (As := [.ref (b 0), .int x1]) (rest := []) C (ckX2_oddsApart hc _) ⟨va_cnB 2 hts gX10_spread_X2_oddsApart_n238 rfl rfl rfl (hN _ nwM_X10_238 rfl) (hts _ LX10_spread_I_X2) (by decide +kernel) ⟨Nat.le_of_ble_eq_true rfl, Nat.le_of_ble_eq_true rfl⟩, hts _ LX10_spread_N_X2_oddsApart, hts _ LX10_spread_E_X2_oddsApart⟩ (q_preV hK hP (ci := 2) (q0 := 53) rfl rfl rfl (q_pre hN hK hP hD [11, 12, 13, 14, 15, 16, 17, 18, 19, 20, 21, 22, 23, 24, 25, 26, 27, 28, 29, 30, 31, 32, 33, 34, 35, 36, 37, 38, 39, 40, 41, 42, 43, 44, 45, 46, 47, 48, 49, 50, 51, 52, 53, 54, 55, 56, 57, 58, 59, 60, 61, 62, 63] (by first | exact zqs_2X | rfl) zqn_2)) rfl rfl hl.1 rfl (lv_room (Nat.le_of_ble_eq_true rfl)) dX10_spread_20 ⟨Nat.le_of_ble_eq_true rfl, Nat.le_of_ble_eq_true rfl⟩) hP hD hS hA [11, 12, 13, 14, 15, 16, 17, 18, 19, 20, 21, 22, 23, 24, 25, 26, 27, 28, 29, 30, 31, 32, 33, 34, 35, 36, 37, 38, 39, 40, 41, 42, 43, 44, 45, 46, 47, 48, 49, 50, 51, 52, 53, 54, 55, 56, 57, 58, 59, 60, 61, 62, 63] [0, 1, 2, 3, 4, 5, 6, 7, 8, 9, 10] (by first | exact zqs_2X | rfl) (by first | exact zqs_3X | rfl) zqn_3 zqd_1 (fun r7 w1 H locs hw hP hD hS => ?_)
    obtain ⟨hq_, hw⟩ := hw; subst hw; subst hq_
    obtain ⟨s8, hs9, hB⟩ := letS_inv hB
    have hP : va_P (dC, dI) vwCl (wX cB cI cJ cZ cS a b b2 c0 rg sl s8) H := by subst hs9; exact hP
    have hD : va_D A (wX cB cI cJ cZ cS a b b2 c0 rg sl s8) := by subst hs9; exact hD
    refine lv_goto (tgt := 27) hx hb dX10_spread_23 (by decide) ?_
    exact q_iret C hr hlocks hK hP hD hS (Nat.le_of_ble_eq_true rfl) (Nat.le_of_ble_eq_true rfl) dX10_spread_27 (by cases hB; exact ⟨rfl, rfl⟩)
theorem ckX10_spread {l : Launch} {dC : Nat → ClassId} {dI : Nat → Nat → Nat} {cB cI cJ cZ cS : ClassId} {a b b2 c0 : Nat → Nat} {rg sl : Nat → Option Nat} {r : Int32} {s' : XS} {s : XS} {x1 : Int32} (hB : kX10_spread s x1 = some (r, s')) : CI l yX10_spread wsX10_spread ({ frames := 3, cells := 0, slots := 0, locals := 71 }) (dC, dI) (tysA cB cI cJ cZ cS) (wX cB cI cJ cZ cS a b b2 c0 rg sl s) [.ref (c0 0), .int x1] (fun x u => x = r ∧ u = (wX cB cI cJ cZ cS a b b2 c0 rg sl s')) :=
  CI_of (cc := cX10_spread) (maxL := 2) (ret := (some .int)) (by decide) rfl (Nat.le_of_ble_eq_true rfl) (bkX10_spread _ _ hB)
theorem LX10_open_19 : Cond.fieldLink RX10 19 "GuessFerry" "sound" "LGuessFerry$Sound;" ∈ wsX10_open := (List.mem_cons_of_mem _ (List.mem_append_left _ (List.mem_append_left _ (List.mem_append_left _ (List.mem_append_left _ (List.mem_append_left _ (List.mem_of_getElem? (i := 0) rfl)))))))
theorem LX10_open_35 : Cond.fieldLink RX10 35 "GuessFerry" "now" "LGuessFerry$Standing;" ∈ wsX10_open := (List.mem_cons_of_mem _ (List.mem_append_left _ (List.mem_append_left _ (List.mem_append_left _ (List.mem_append_left _ (List.mem_append_left _ (List.mem_of_getElem? (i := 2) rfl)))))))
theorem LX10_open_54 : Cond.fieldLink RX10 54 "GuessFerry" "crossing" "LGuessFerry$Crossing;" ∈ wsX10_open := (List.mem_cons_of_mem _ (List.mem_append_left _ (List.mem_append_left _ (List.mem_append_left _ (List.mem_append_left _ (List.mem_append_left _ (List.mem_of_getElem? (i := 1) rfl)))))))
theorem LX10_open_E_X0_mayBe : Cond.selects RX0 yX0_mayBe yX0_mayBe ∈ wsX10_open := (List.mem_cons_of_mem _ (List.mem_append_left _ (List.mem_append_left _ (List.mem_append_left _ (List.mem_append_left _ (List.mem_append_left _ (List.mem_of_getElem? (i := 5) rfl)))))))
theorem LX10_open_I_X0 : Cond.initialized RX0 ∈ wsX10_open := (List.mem_cons_of_mem _ (List.mem_append_left _ (List.mem_append_left _ (List.mem_append_left _ (List.mem_append_left _ (List.mem_append_left _ (List.mem_of_getElem? (i := 4) rfl)))))))
theorem LX10_open_N_X0_mayBe : Cond.instanceMethod yX0_mayBe ∈ wsX10_open := (List.mem_cons_of_mem _ (List.mem_append_left _ (List.mem_append_left _ (List.mem_append_left _ (List.mem_append_left _ (List.mem_append_left _ (List.mem_of_getElem? (i := 3) rfl)))))))
theorem inX10_open_X10 : ∀ w ∈ u_ws RX10 TX10 9, w ∈ wsX10_open := fun w h => (List.mem_cons_of_mem _ (List.mem_append_left _ (List.mem_append_left _ (List.mem_append_left _ (List.mem_append_right _ h)))))
theorem inX10_open_X5 : ∀ w ∈ u_ws RX5 TX5 10, w ∈ wsX10_open := fun w h => (List.mem_cons_of_mem _ (List.mem_append_left _ (List.mem_append_left _ (List.mem_append_right _ h))))
set_option maxHeartbeats 4000000 in
set_option maxRecDepth 100000 in
theorem bkX10_open_40 {l : Launch} {dC : Nat → ClassId} {dI : Nat → Nat → Nat} {cB cI cJ cZ cS : ClassId} {a b b2 c0 : Nat → Nat} {rg sl : Nat → Option Nat} {as : List Value} {r : Int32} {s' : XS} {k4 : XS → Int32 → Int32 → Option (Int32 × XS)} (hk4 : ∀ (s : XS) (x1 : Int32) (x2 : Int32), k4 s x1 x2 = some (r, s') → BlkI l yX10_open wsX10_open ({ frames := 1, cells := 0, slots := 0, locals := 22 }) cX10_open 3 (some .int) (dC, dI) (tysA cB cI cJ cZ cS) as 4 (wX cB cI cJ cZ cS a b b2 c0 rg sl s) [(0, .ref (c0 0)), (1, .int x1), (2, .int x2)] [] (fun x u => x = r ∧ u = (wX cB cI cJ cZ cS a b b2 c0 rg sl s'))) (s : XS) (x1 : Int32) (x2 : Int32) (hB : kX10_open_40 k4 s x1 x2 = some (r, s')) : BlkI l yX10_open wsX10_open ({ frames := 1, cells := 0, slots := 0, locals := 22 }) cX10_open 3 (some .int) (dC, dI) (tysA cB cI cJ cZ cS) as 40 (wX cB cI cJ cZ cS a b b2 c0 rg sl s) [(0, .ref (c0 0)), (1, .int x1), (2, .int x2)] [] (fun x u => x = r ∧ u = (wX cB cI cJ cZ cS a b b2 c0 rg sl s')) := by
  intro p e s0 m below meth c A E H locs ls hP hD hS hl
  obtain ⟨C, hr, hlocks, hA, hK, hN⟩ := id E
  obtain ⟨hx, hb, hml, hown, hts⟩ := id C
  unfold kX10_open_40 at hB
  refine lv_iinc (v := (x2 + 1)) (lv' := [(2, .int (x2 + 1)), (0, .ref (c0 0)), (1, .int x1)]) hx hb dX10_open_40 hl (k := 2) rfl (rfl) (by decide) rfl (fun ls hl => ?_)
  refine lv_goto (tgt := 4) hx hb dX10_open_43 (by decide) ?_
  exact hk4 _ _ _ hB p e s0 m below meth c A E H locs ls hP hD hS (lv_sub hl [1, 2, 0] rfl)
set_option maxHeartbeats 4000000 in
set_option maxRecDepth 100000 in
theorem bkX10_open_4 {l : Launch} {dC : Nat → ClassId} {dI : Nat → Nat → Nat} {cB cI cJ cZ cS : ClassId} {a b b2 c0 : Nat → Nat} {rg sl : Nat → Option Nat} {as : List Value} {r : Int32} {s' : XS} {k4 : XS → Int32 → Int32 → Option (Int32 × XS)} (hk4 : ∀ (s : XS) (x1 : Int32) (x2 : Int32), k4 s x1 x2 = some (r, s') → BlkI l yX10_open wsX10_open ({ frames := 1, cells := 0, slots := 0, locals := 22 }) cX10_open 3 (some .int) (dC, dI) (tysA cB cI cJ cZ cS) as 4 (wX cB cI cJ cZ cS a b b2 c0 rg sl s) [(0, .ref (c0 0)), (1, .int x1), (2, .int x2)] [] (fun x u => x = r ∧ u = (wX cB cI cJ cZ cS a b b2 c0 rg sl s'))) (s : XS) (x1 : Int32) (x2 : Int32) (hB : kX10_open_4 k4 s x1 x2 = some (r, s')) : BlkI l yX10_open wsX10_open ({ frames := 1, cells := 0, slots := 0, locals := 22 }) cX10_open 3 (some .int) (dC, dI) (tysA cB cI cJ cZ cS) as 4 (wX cB cI cJ cZ cS a b b2 c0 rg sl s) [(0, .ref (c0 0)), (1, .int x1), (2, .int x2)] [] (fun x u => x = r ∧ u = (wX cB cI cJ cZ cS a b b2 c0 rg sl s')) := by
  intro p e s0 m below meth c A E H locs ls hP hD hS hl
  obtain ⟨C, hr, hlocks, hA, hK, hN⟩ := id E
  obtain ⟨hx, hb, hml, hown, hts⟩ := id C
  unfold kX10_open_4 at hB
  refine lv_iload_n hx hb dX10_open_4 rfl (lv_at hl 2 rfl) ?_
  refine lv_aload_n hx hb dX10_open_5 rfl (lv_at hl 0 rfl) ?_
  refine q_get (v := .ref (a 2)) C inX10_open_X10 hK hP 0 rfl rfl 1 (by decide) rfl LX10_open_19 rfl dX10_open_6 ?_
  refine q_getN (v := .int (s.k.v 1)) C hN inX10_open_X5 hK hP 19 rfl rfl 6 (by decide) rfl nwF_X10_167 rfl dX10_open_9 ?_
  refine lv_icmp_ge (tgt := 46) hx hb dX10_open_12 (by decide) (fun c1 => ?_) (fun c1 => ?_)
  · have hB := if_p hB c1
    refine lv_iload_n hx hb dX10_open_46 rfl (lv_at hl 1 rfl) ?_
    exact q_iret C hr hlocks hK hP hD hS (Nat.le_of_ble_eq_true rfl) (Nat.le_of_ble_eq_true rfl) dX10_open_47 (by cases hB; exact ⟨rfl, rfl⟩)
  · have hB := if_n hB c1
    refine lv_aload_n hx hb dX10_open_15 rfl (lv_at hl 0 rfl) ?_
    refine q_get (v := .ref (a 35)) C inX10_open_X10 hK hP 0 rfl rfl 6 (by decide) rfl LX10_open_54 rfl dX10_open_16 ?_
    refine lv_aload_n hx hb dX10_open_19 rfl (lv_at hl 0 rfl) ?_
    refine q_get (v := .ref (b 0)) C inX10_open_X10 hK hP 0 rfl rfl 3 (by decide) rfl LX10_open_35 rfl dX10_open_20 ?_
    refine lv_iload_n hx hb dX10_open_23 rfl (lv_at hl 2 rfl) ?_
    obtain ⟨q_, s2, hc, hB⟩ := bindI_inv hB
    refine q_goi (wr := ((wG cZ cS a b b2 c0 rg sl s.g) ++ (wD cI b2 s.t))) (va_runVN (As := [.ref (b 0), .int x2]) (rest := []) C (ckX0_mayBe hc _) ⟨va_cnB 2 hts gX10_open_X0_mayBe_n111 rfl rfl rfl (hN _ nwM_X10_111 rfl) (hts _ LX10_open_I_X0) (by decide +kernel) ⟨Nat.le_of_ble_eq_true rfl, Nat.le_of_ble_eq_true rfl⟩, hts _ LX10_open_N_X0_mayBe, hts _ LX10_open_E_X0_mayBe⟩ (q_preV hK hP (ci := 0) (q0 := 52) rfl rfl rfl (q_pre hN hK hP hD [11, 12, 13, 14, 15, 16, 17, 18, 19, 20, 21, 22, 23, 24, 25, 26, 27, 28, 29, 30, 31, 32, 33, 34, 35, 36, 37, 38, 39, 40, 41, 42, 43, 44, 45, 46, 47, 48, 49, 50, 51, 52, 53, 54, 55, 56, 57, 58, 59, 60, 61, 62, 63] (by first | exact zqs_2X | rfl) zqn_2)) rfl rfl hl.1 rfl (lv_room (Nat.le_of_ble_eq_true rfl)) dX10_open_24 ⟨Nat.le_of_ble_eq_true rfl, Nat.le_of_ble_eq_true rfl⟩) hP hD hS hA [11, 12, 13, 14, 15, 16, 17, 18, 19, 20, 21, 22, 23, 24, 25, 26, 27, 28, 29, 30, 31, 32, 33, 34, 35, 36, 37, 38, 39, 40, 41, 42, 43, 44, 45, 46, 47, 48, 49, 50, 51, 52, 53, 54, 55, 56, 57, 58, 59, 60, 61, 62, 63] [0, 1, 2, 3, 4, 5, 6, 7, 8, 9, 10] (by first | exact zqs_2X | rfl) (by first | exact zqs_3X | rfl) zqn_3 zqd_1 (fun r3 w1 H locs hw hP hD hS => ?_)
    obtain ⟨hq_, hw⟩ := hw; subst hw; subst hq_
    obtain ⟨s4, hs5, hB⟩ := letS_inv hB
    have hP : va_P (dC, dI) vwCl (wX cB cI cJ cZ cS a b b2 c0 rg sl s4) H := by subst hs5; exact hP
    have hD : va_D A (wX cB cI cJ cZ cS a b b2 c0 rg sl s4) := by subst hs5; exact hD
    obtain ⟨q_, hc, hB⟩ := bindP_inv hB
    refine q_goi0 (va_runS (As := [.int r3]) (rest := []) C (ckJ6_bitCount_0f7a4 hc _) (va_cwS 1 hts gX10_open_J6_bitCount_0f7a4 rfl rfl rfl (by decide +kernel) ⟨Nat.le_of_ble_eq_true rfl, Nat.le_of_ble_eq_true rfl⟩) (q_pre0 hN hK) rfl rfl hl.1 rfl (lv_room (Nat.le_of_ble_eq_true rfl)) dX10_open_27 ⟨Nat.le_of_ble_eq_true rfl, Nat.le_of_ble_eq_true rfl⟩) hP hD hS hA (fun r6 w1 H locs hw hP hS => ?_)
    subst hw
    refine lv_iconst (v := 1) hx hb dX10_open_30 (by decide) ?_
    refine lv_icmp_le (tgt := 40) hx hb dX10_open_31 (by decide) (fun c7 => ?_) (fun c7 => ?_)
    · have hB := if_p hB c7
      exact bkX10_open_40 (hk4) _ _ _ hB p e s0 m below meth c A E H locs ls hP hD hS (lv_sub hl [0, 1, 2] rfl)
    · have hB := if_n hB c7
      refine lv_iload_n hx hb dX10_open_34 rfl (lv_at hl 1 rfl) ?_
      refine lv_iconst (v := 1) hx hb dX10_open_35 (by decide) ?_
      refine lv_iload_n hx hb dX10_open_36 rfl (lv_at hl 2 rfl) ?_
      refine lv_ishl hx hb dX10_open_37 ?_
      refine lv_ior hx hb dX10_open_38 ?_
      refine lv_istore_n (lv' := [(1, .int (x1 ||| (1 <<< (x2 &&& 31)))), (0, .ref (c0 0)), (2, .int x2)]) hx hb dX10_open_39 rfl hl (by decide) rfl (fun ls hl => ?_)
      exact bkX10_open_40 (hk4) _ _ _ hB p e s0 m below meth c A E H locs ls hP hD hS (lv_sub hl [1, 0, 2] rfl)
theorem bkX10_open_4L {l : Launch} {dC : Nat → ClassId} {dI : Nat → Nat → Nat} {cB cI cJ cZ cS : ClassId} {a b b2 c0 : Nat → Nat} {rg sl : Nat → Option Nat} {as : List Value} {r : Int32} {s' : XS} : ∀ (n : Nat) (s : XS) (x1 : Int32) (x2 : Int32), kX10_open_4L n s x1 x2 = some (r, s') → BlkI l yX10_open wsX10_open ({ frames := 1, cells := 0, slots := 0, locals := 22 }) cX10_open 3 (some .int) (dC, dI) (tysA cB cI cJ cZ cS) as 4 (wX cB cI cJ cZ cS a b b2 c0 rg sl s) [(0, .ref (c0 0)), (1, .int x1), (2, .int x2)] [] (fun x u => x = r ∧ u = (wX cB cI cJ cZ cS a b b2 c0 rg sl s')) := by
  intro n
  induction n with
  | zero => intro s x1 x2 hB; exact none_ne hB
  | succ n ih => intro s x1 x2 hB; exact bkX10_open_4 ih _ _ _ hB
set_option maxHeartbeats 4000000 in
set_option maxRecDepth 100000 in
theorem bkX10_open {l : Launch} {dC : Nat → ClassId} {dI : Nat → Nat → Nat} {cB cI cJ cZ cS : ClassId} {a b b2 c0 : Nat → Nat} {rg sl : Nat → Option Nat} {as : List Value} {r : Int32} {s' : XS} (s : XS) (hB : kX10_open s = some (r, s')) : BlkI l yX10_open wsX10_open ({ frames := 1, cells := 0, slots := 0, locals := 22 }) cX10_open 3 (some .int) (dC, dI) (tysA cB cI cJ cZ cS) as 0 (wX cB cI cJ cZ cS a b b2 c0 rg sl s) [(0, .ref (c0 0))] [] (fun x u => x = r ∧ u = (wX cB cI cJ cZ cS a b b2 c0 rg sl s')) := by
  intro p e s0 m below meth c A E H locs ls hP hD hS hl
  obtain ⟨C, hr, hlocks, hA, hK, hN⟩ := id E
  obtain ⟨hx, hb, hml, hown, hts⟩ := id C
  unfold kX10_open at hB
  refine lv_iconst (v := 0) hx hb dX10_open_0 (by decide) ?_
  refine lv_istore_n (lv' := [(1, .int 0), (0, .ref (c0 0))]) hx hb dX10_open_1 rfl hl (by decide) rfl (fun ls hl => ?_)
  refine lv_iconst (v := 0) hx hb dX10_open_2 (by decide) ?_
  refine lv_istore_n (lv' := [(2, .int 0), (1, .int 0), (0, .ref (c0 0))]) hx hb dX10_open_3 rfl hl (by decide) rfl (fun ls hl => ?_)
  exact bkX10_open_4L fu _ _ _ hB p e s0 m below meth c A E H locs ls hP hD hS (lv_sub hl [2, 1, 0] rfl)
theorem ckX10_open {l : Launch} {dC : Nat → ClassId} {dI : Nat → Nat → Nat} {cB cI cJ cZ cS : ClassId} {a b b2 c0 : Nat → Nat} {rg sl : Nat → Option Nat} {r : Int32} {s' : XS} {s : XS} (hB : kX10_open s = some (r, s')) : CI l yX10_open wsX10_open ({ frames := 1, cells := 0, slots := 0, locals := 22 }) (dC, dI) (tysA cB cI cJ cZ cS) (wX cB cI cJ cZ cS a b b2 c0 rg sl s) [.ref (c0 0)] (fun x u => x = r ∧ u = (wX cB cI cJ cZ cS a b b2 c0 rg sl s')) :=
  CI_of (cc := cX10_open) (maxL := 3) (ret := (some .int)) (by decide) rfl (Nat.le_of_ble_eq_true rfl) (bkX10_open _ hB)
theorem LX10_buoysLying_19 : Cond.fieldLink RX10 19 "GuessFerry" "sound" "LGuessFerry$Sound;" ∈ wsX10_buoysLying := (List.mem_cons_of_mem _ (List.mem_append_left _ (List.mem_append_left _ (List.mem_append_left _ (List.mem_append_left _ (List.mem_of_getElem? (i := 0) rfl))))))
theorem LX10_buoysLying_35 : Cond.fieldLink RX10 35 "GuessFerry" "now" "LGuessFerry$Standing;" ∈ wsX10_buoysLying := (List.mem_cons_of_mem _ (List.mem_append_left _ (List.mem_append_left _ (List.mem_append_left _ (List.mem_append_left _ (List.mem_of_getElem? (i := 1) rfl))))))
theorem inX10_buoysLying_X10 : ∀ w ∈ u_ws RX10 TX10 9, w ∈ wsX10_buoysLying := fun w h => (List.mem_cons_of_mem _ (List.mem_append_left _ (List.mem_append_left _ (List.mem_append_right _ h))))
theorem inX10_buoysLying_X5 : ∀ w ∈ u_ws RX5 TX5 10, w ∈ wsX10_buoysLying := fun w h => (List.mem_cons_of_mem _ (List.mem_append_left _ (List.mem_append_right _ h)))
theorem inX10_buoysLying_X6 : ∀ w ∈ u_ws RX6 TX6 7, w ∈ wsX10_buoysLying := fun w h => (List.mem_cons_of_mem _ (List.mem_append_right _ h))
set_option maxHeartbeats 4000000 in
set_option maxRecDepth 100000 in
theorem bkX10_buoysLying_4 {l : Launch} {dC : Nat → ClassId} {dI : Nat → Nat → Nat} {cB cI cJ cZ cS : ClassId} {a b b2 c0 : Nat → Nat} {rg sl : Nat → Option Nat} {as : List Value} {r : Int32} {s' : XS} {k4 : XS → Int32 → Int32 → Option (Int32 × XS)} (hk4 : ∀ (s : XS) (x1 : Int32) (x2 : Int32), k4 s x1 x2 = some (r, s') → BlkI l yX10_buoysLying wsX10_buoysLying ({ frames := 1, cells := 0, slots := 0, locals := 20 }) cX10_buoysLying 3 (some .int) (dC, dI) (tysA cB cI cJ cZ cS) as 4 (wX cB cI cJ cZ cS a b b2 c0 rg sl s) [(0, .ref (c0 0)), (1, .int x1), (2, .int x2)] [] (fun x u => x = r ∧ u = (wX cB cI cJ cZ cS a b b2 c0 rg sl s'))) (s : XS) (x1 : Int32) (x2 : Int32) (hB : kX10_buoysLying_4 k4 s x1 x2 = some (r, s')) : BlkI l yX10_buoysLying wsX10_buoysLying ({ frames := 1, cells := 0, slots := 0, locals := 20 }) cX10_buoysLying 3 (some .int) (dC, dI) (tysA cB cI cJ cZ cS) as 4 (wX cB cI cJ cZ cS a b b2 c0 rg sl s) [(0, .ref (c0 0)), (1, .int x1), (2, .int x2)] [] (fun x u => x = r ∧ u = (wX cB cI cJ cZ cS a b b2 c0 rg sl s')) := by
  intro p e s0 m below meth c A E H locs ls hP hD hS hl
  obtain ⟨C, hr, hlocks, hA, hK, hN⟩ := id E
  obtain ⟨hx, hb, hml, hown, hts⟩ := id C
  unfold kX10_buoysLying_4 at hB
  refine lv_iload_n hx hb dX10_buoysLying_4 rfl (lv_at hl 2 rfl) ?_
  refine lv_aload_n hx hb dX10_buoysLying_5 rfl (lv_at hl 0 rfl) ?_
  refine q_get (v := .ref (a 2)) C inX10_buoysLying_X10 hK hP 0 rfl rfl 1 (by decide) rfl LX10_buoysLying_19 rfl dX10_buoysLying_6 ?_
  refine q_getN (v := .int (s.k.v 1)) C hN inX10_buoysLying_X5 hK hP 19 rfl rfl 6 (by decide) rfl nwF_X10_167 rfl dX10_buoysLying_9 ?_
  refine lv_icmp_ge (tgt := 36) hx hb dX10_buoysLying_12 (by decide) (fun c1 => ?_) (fun c1 => ?_)
  · have hB := if_p hB c1
    refine lv_iload_n hx hb dX10_buoysLying_36 rfl (lv_at hl 1 rfl) ?_
    exact q_iret C hr hlocks hK hP hD hS (Nat.le_of_ble_eq_true rfl) (Nat.le_of_ble_eq_true rfl) dX10_buoysLying_37 (by cases hB; exact ⟨rfl, rfl⟩)
  · have hB := if_n hB c1
    refine lv_iload_n hx hb dX10_buoysLying_15 rfl (lv_at hl 1 rfl) ?_
    refine lv_aload_n hx hb dX10_buoysLying_16 rfl (lv_at hl 0 rfl) ?_
    refine q_get (v := .ref (b 0)) C inX10_buoysLying_X10 hK hP 0 rfl rfl 3 (by decide) rfl LX10_buoysLying_35 rfl dX10_buoysLying_17 ?_
    refine q_getN (v := .ref (b 2)) C hN inX10_buoysLying_X6 hK hP 11 rfl rfl 1 (by decide) rfl nwF_X10_119 rfl dX10_buoysLying_20 ?_
    refine lv_iload_n hx hb dX10_buoysLying_23 rfl (lv_at hl 2 rfl) ?_
    obtain ⟨g2, hB⟩ := guard_inv hB
    refine q_iald (x := ((s.n.f 1) (Int32.toNatClampNeg x2))) C hK hP 13 1 rfl rfl (vpb_in g2) dX10_buoysLying_24 rfl ?_
    obtain ⟨q_, hc, hB⟩ := bindP_inv hB
    refine q_goi0 (va_runS (As := [.int ((s.n.f 1) (Int32.toNatClampNeg x2))]) (rest := [.int x1]) C (ckJ6_bitCount_0f7a4 hc _) (va_cwS 1 hts gX10_buoysLying_J6_bitCount_0f7a4 rfl rfl rfl (by decide +kernel) ⟨Nat.le_of_ble_eq_true rfl, Nat.le_of_ble_eq_true rfl⟩) (q_pre0 hN hK) rfl rfl hl.1 rfl (lv_room (Nat.le_of_ble_eq_true rfl)) dX10_buoysLying_25 ⟨Nat.le_of_ble_eq_true rfl, Nat.le_of_ble_eq_true rfl⟩) hP hD hS hA (fun r3 w1 H locs hw hP hS => ?_)
    subst hw
    refine lv_iadd hx hb dX10_buoysLying_28 ?_
    refine lv_istore_n (lv' := [(1, .int (x1 + r3)), (0, .ref (c0 0)), (2, .int x2)]) hx hb dX10_buoysLying_29 rfl hl (by decide) rfl (fun ls hl => ?_)
    refine lv_iinc (v := (x2 + 1)) (lv' := [(2, .int (x2 + 1)), (1, .int (x1 + r3)), (0, .ref (c0 0))]) hx hb dX10_buoysLying_30 hl (k := 2) rfl (rfl) (by decide) rfl (fun ls hl => ?_)
    refine lv_goto (tgt := 4) hx hb dX10_buoysLying_33 (by decide) ?_
    exact hk4 _ _ _ hB p e s0 m below meth c A E H locs ls hP hD hS (lv_sub hl [2, 1, 0] rfl)
theorem bkX10_buoysLying_4L {l : Launch} {dC : Nat → ClassId} {dI : Nat → Nat → Nat} {cB cI cJ cZ cS : ClassId} {a b b2 c0 : Nat → Nat} {rg sl : Nat → Option Nat} {as : List Value} {r : Int32} {s' : XS} : ∀ (n : Nat) (s : XS) (x1 : Int32) (x2 : Int32), kX10_buoysLying_4L n s x1 x2 = some (r, s') → BlkI l yX10_buoysLying wsX10_buoysLying ({ frames := 1, cells := 0, slots := 0, locals := 20 }) cX10_buoysLying 3 (some .int) (dC, dI) (tysA cB cI cJ cZ cS) as 4 (wX cB cI cJ cZ cS a b b2 c0 rg sl s) [(0, .ref (c0 0)), (1, .int x1), (2, .int x2)] [] (fun x u => x = r ∧ u = (wX cB cI cJ cZ cS a b b2 c0 rg sl s')) := by
  intro n
  induction n with
  | zero => intro s x1 x2 hB; exact none_ne hB
  | succ n ih => intro s x1 x2 hB; exact bkX10_buoysLying_4 ih _ _ _ hB
set_option maxHeartbeats 4000000 in
set_option maxRecDepth 100000 in
theorem bkX10_buoysLying {l : Launch} {dC : Nat → ClassId} {dI : Nat → Nat → Nat} {cB cI cJ cZ cS : ClassId} {a b b2 c0 : Nat → Nat} {rg sl : Nat → Option Nat} {as : List Value} {r : Int32} {s' : XS} (s : XS) (hB : kX10_buoysLying s = some (r, s')) : BlkI l yX10_buoysLying wsX10_buoysLying ({ frames := 1, cells := 0, slots := 0, locals := 20 }) cX10_buoysLying 3 (some .int) (dC, dI) (tysA cB cI cJ cZ cS) as 0 (wX cB cI cJ cZ cS a b b2 c0 rg sl s) [(0, .ref (c0 0))] [] (fun x u => x = r ∧ u = (wX cB cI cJ cZ cS a b b2 c0 rg sl s')) := by
  intro p e s0 m below meth c A E H locs ls hP hD hS hl
  obtain ⟨C, hr, hlocks, hA, hK, hN⟩ := id E
  obtain ⟨hx, hb, hml, hown, hts⟩ := id C
  unfold kX10_buoysLying at hB
  refine lv_iconst (v := 0) hx hb dX10_buoysLying_0 (by decide) ?_
  refine lv_istore_n (lv' := [(1, .int 0), (0, .ref (c0 0))]) hx hb dX10_buoysLying_1 rfl hl (by decide) rfl (fun ls hl => ?_)
  refine lv_iconst (v := 0) hx hb dX10_buoysLying_2 (by decide) ?_
  refine lv_istore_n (lv' := [(2, .int 0), (1, .int 0), (0, .ref (c0 0))]) hx hb dX10_buoysLying_3 rfl hl (by decide) rfl (fun ls hl => ?_)
  exact bkX10_buoysLying_4L fu _ _ _ hB p e s0 m below meth c A E H locs ls hP hD hS (lv_sub hl [2, 1, 0] rfl)
theorem ckX10_buoysLying {l : Launch} {dC : Nat → ClassId} {dI : Nat → Nat → Nat} {cB cI cJ cZ cS : ClassId} {a b b2 c0 : Nat → Nat} {rg sl : Nat → Option Nat} {r : Int32} {s' : XS} {s : XS} (hB : kX10_buoysLying s = some (r, s')) : CI l yX10_buoysLying wsX10_buoysLying ({ frames := 1, cells := 0, slots := 0, locals := 20 }) (dC, dI) (tysA cB cI cJ cZ cS) (wX cB cI cJ cZ cS a b b2 c0 rg sl s) [.ref (c0 0)] (fun x u => x = r ∧ u = (wX cB cI cJ cZ cS a b b2 c0 rg sl s')) :=
  CI_of (cc := cX10_buoysLying) (maxL := 3) (ret := (some .int)) (by decide) rfl (Nat.le_of_ble_eq_true rfl) (bkX10_buoysLying _ hB)
set_option maxHeartbeats 4000000 in
set_option maxRecDepth 100000 in
theorem bkX10_lot {l : Launch} {dC : Nat → ClassId} {dI : Nat → Nat → Nat} {cB cI cJ cZ cS : ClassId} {as : List Value} {r : Int32} (x0 : Int32) (x1 : Int32) (x2 : Int32) (hB : kX10_lot x0 x1 x2 = some r) : BlkI l yX10_lot wsX10_lot ({ frames := 1, cells := 0, slots := 0, locals := 22 }) cX10_lot 4 (some .int) (dC, dI) (tysA cB cI cJ cZ cS) as 0 [] [(0, .int x0), (1, .int x1), (2, .int x2)] [] (fun x _ => x = r) := by
  intro p e s0 m below meth c A E H locs ls hP hD hS hl
  obtain ⟨C, hr, hlocks, hA, hK, hN⟩ := id E
  obtain ⟨hx, hb, hml, hown, hts⟩ := id C
  unfold kX10_lot at hB
  refine lv_iload_n hx hb dX10_lot_0 rfl (lv_at hl 0 rfl) ?_
  refine lv_if_gt (tgt := 6) hx hb dX10_lot_1 (by decide) (fun c1 => ?_) (fun c1 => ?_)
  · have hB := if_p hB c1
    refine lv_iload_n hx hb dX10_lot_6 rfl (lv_at hl 1 rfl) ?_
    refine lv_sipush (v := 173) hx hb dX10_lot_7 (by decide) ?_
    obtain ⟨q_, hc, hB⟩ := bindP_inv hB
    refine q_goi0 (va_runS (As := [.int x1, .int 173]) (rest := []) C (ckX10_stirred hc _) (va_cwS 2 hts gX10_lot_X10_stirred rfl rfl rfl (by decide +kernel) ⟨Nat.le_of_ble_eq_true rfl, Nat.le_of_ble_eq_true rfl⟩) (q_pre0 hN hK) rfl rfl hl.1 rfl (lv_room (Nat.le_of_ble_eq_true rfl)) dX10_lot_10 ⟨Nat.le_of_ble_eq_true rfl, Nat.le_of_ble_eq_true rfl⟩) hP hD hS hA (fun r2 w1 H locs hw hP hS => ?_)
    subst hw
    refine lv_iload_n hx hb dX10_lot_13 rfl (lv_at hl 2 rfl) ?_
    obtain ⟨q_, hc, hB⟩ := bindP_inv hB
    refine q_goi0 (va_runS (As := [.int r2, .int x2]) (rest := []) C (ckX10_stirred hc _) (va_cwS 2 hts gX10_lot_X10_stirred rfl rfl rfl (by decide +kernel) ⟨Nat.le_of_ble_eq_true rfl, Nat.le_of_ble_eq_true rfl⟩) (q_pre0 hN hK) rfl rfl hl.1 rfl (lv_room (Nat.le_of_ble_eq_true rfl)) dX10_lot_14 ⟨Nat.le_of_ble_eq_true rfl, Nat.le_of_ble_eq_true rfl⟩) hP hD hS hA (fun r3 w1 H locs hw hP hS => ?_)
    subst hw
    refine lv_istore_n (lv' := [(3, .int r3), (0, .int x0), (1, .int x1), (2, .int x2)]) hx hb dX10_lot_17 rfl hl (by decide) rfl (fun ls hl => ?_)
    refine lv_iload_n hx hb dX10_lot_18 rfl (lv_at hl 0 rfl) ?_
    refine lv_iconst (v := 1) hx hb dX10_lot_19 (by decide) ?_
    refine lv_iushr (v := (ushr r3 1)) hx hb dX10_lot_20 rfl ?_
    refine lv_iload_n hx hb dX10_lot_21 rfl (lv_at hl 1 rfl) ?_
    obtain ⟨z4, hB⟩ := guard_inv hB
    refine lv_irem hx hb dX10_lot_22 z4 ?_
    exact q_iret C hr hlocks hK hP hD hS (Nat.le_of_ble_eq_true rfl) (Nat.le_of_ble_eq_true rfl) dX10_lot_23 (by cases hB; rfl)
  · have hB := if_n hB c1
    refine lv_iconst (v := 0) hx hb dX10_lot_4 (by decide) ?_
    exact q_iret C hr hlocks hK hP hD hS (Nat.le_of_ble_eq_true rfl) (Nat.le_of_ble_eq_true rfl) dX10_lot_5 (by cases hB; rfl)
theorem ckX10_lot {l : Launch} {dC : Nat → ClassId} {dI : Nat → Nat → Nat} {cB cI cJ cZ cS : ClassId} {r : Int32} {x0 : Int32} {x1 : Int32} {x2 : Int32} (hB : kX10_lot x0 x1 x2 = some r) : CI l yX10_lot wsX10_lot ({ frames := 1, cells := 0, slots := 0, locals := 22 }) (dC, dI) (tysA cB cI cJ cZ cS) [] [.int x0, .int x1, .int x2] (fun x _ => x = r) :=
  CI_of (cc := cX10_lot) (maxL := 4) (ret := (some .int)) (by decide) rfl (Nat.le_of_ble_eq_true rfl) (bkX10_lot _ _ _ hB)
theorem LX1_clear_34 : Cond.fieldLink RX1 34 "GuessFerry$Laws" "length" "I" ∈ wsX1_clear := (List.mem_cons_of_mem _ (List.mem_append_left _ (List.mem_append_left _ (List.mem_of_getElem? (i := 0) rfl))))
theorem inX1_clear_X1 : ∀ w ∈ u_ws RX1 TX1 9, w ∈ wsX1_clear := fun w h => (List.mem_cons_of_mem _ (List.mem_append_right _ h))
set_option maxHeartbeats 4000000 in
set_option maxRecDepth 100000 in
theorem bkX1_clear {l : Launch} {dC : Nat → ClassId} {dI : Nat → Nat → Nat} {cB cI cJ cZ cS : ClassId} {a : Nat → Nat} {as : List Value} {s' : KS} (s : KS) (hB : kX1_clear s = some s') : BlkV l yX1_clear wsX1_clear ({ frames := 2, cells := 0, slots := 0, locals := 42 }) cX1_clear 1 none (dC, dI) (tysA cB cI cJ cZ cS) as 0 (wK cB cI cJ cZ cS a s) [(0, .ref (a 21))] [] (fun u => u = (wK cB cI cJ cZ cS a s')) := by
  intro p e s0 m below meth c A E H locs ls hP hD hS hl
  obtain ⟨C, hr, hlocks, hA, hK, hN⟩ := id E
  obtain ⟨hx, hb, hml, hown, hts⟩ := id C
  unfold kX1_clear at hB
  refine lv_aload_n hx hb dX1_clear_0 rfl (lv_at hl 0 rfl) ?_
  refine lv_iconst (v := 0) hx hb dX1_clear_1 (by decide) ?_
  obtain ⟨s1, hs2, hB⟩ := letS_inv hB
  refine q_put (ty := .int) (w2 := (wK cB cI cJ cZ cS a s1)) tyX1 tyX1_ok nmX1 C inX1_clear_X1 hK hP hD hS 21 rfl rfl 6 (by decide) rfl LX1_clear_34 rfl (by decide +kernel) (rfl) rfl (Nat.le_of_ble_eq_true rfl) dX1_clear_2 (by subst hs2; rfl) (fun H locs hP hD hS => ?_)
  refine lv_aload_n hx hb dX1_clear_5 rfl (lv_at hl 0 rfl) ?_
  refine lv_iconst (v := 0) hx hb dX1_clear_6 (by decide) ?_
  obtain ⟨s3, hc, hB⟩ := bindP_inv hB
  refine q_govF (va_runV (As := [.int 0]) (rest := []) C (ckX1_begin hc _) (cwV 1 hts gX1_clear_X1_begin rfl rfl rfl (by decide +kernel) ⟨Nat.le_of_ble_eq_true rfl, Nat.le_of_ble_eq_true rfl⟩) (q_preV hK hP (ci := 1) (q0 := 21) rfl rfl rfl (q_preF hN hK hP hD)) rfl rfl hl.1 rfl (lv_room (Nat.le_of_ble_eq_true rfl)) dX1_clear_7 ⟨Nat.le_of_ble_eq_true rfl, Nat.le_of_ble_eq_true rfl⟩) hD hS hA (fun w1 H locs hw hP hD hS => ?_)
  subst hw
  refine lv_aload_n hx hb dX1_clear_10 rfl (lv_at hl 0 rfl) ?_
  refine lv_iconst (v := 2) hx hb dX1_clear_11 (by decide) ?_
  obtain ⟨s4, hc, hB⟩ := bindP_inv hB
  refine q_govF (va_runV (As := [.int 2]) (rest := []) C (ckX1_putVar hc _) (cwV 1 hts gX1_clear_X1_putVar rfl rfl rfl (by decide +kernel) ⟨Nat.le_of_ble_eq_true rfl, Nat.le_of_ble_eq_true rfl⟩) (q_preV hK hP (ci := 1) (q0 := 21) rfl rfl rfl (q_preF hN hK hP hD)) rfl rfl hl.1 rfl (lv_room (Nat.le_of_ble_eq_true rfl)) dX1_clear_12 ⟨Nat.le_of_ble_eq_true rfl, Nat.le_of_ble_eq_true rfl⟩) hD hS hA (fun w1 H locs hw hP hD hS => ?_)
  subst hw
  refine lv_aload_n hx hb dX1_clear_15 rfl (lv_at hl 0 rfl) ?_
  obtain ⟨s5, hc, hB⟩ := bindP_inv hB
  refine q_govF (va_runV (As := []) (rest := []) C (ckX1_endPart hc _) (cwV 0 hts gX1_clear_X1_endPart rfl rfl rfl (by decide +kernel) ⟨Nat.le_of_ble_eq_true rfl, Nat.le_of_ble_eq_true rfl⟩) (q_preV hK hP (ci := 1) (q0 := 21) rfl rfl rfl (q_preF hN hK hP hD)) rfl rfl hl.1 rfl (lv_room (Nat.le_of_ble_eq_true rfl)) dX1_clear_16 ⟨Nat.le_of_ble_eq_true rfl, Nat.le_of_ble_eq_true rfl⟩) hD hS hA (fun w1 H locs hw hP hD hS => ?_)
  subst hw
  refine lv_aload_n hx hb dX1_clear_19 rfl (lv_at hl 0 rfl) ?_
  refine lv_iconst (v := 1) hx hb dX1_clear_20 (by decide) ?_
  obtain ⟨s6, hc, hB⟩ := bindP_inv hB
  refine q_govF (va_runV (As := [.int 1]) (rest := []) C (ckX1_begin hc _) (cwV 1 hts gX1_clear_X1_begin rfl rfl rfl (by decide +kernel) ⟨Nat.le_of_ble_eq_true rfl, Nat.le_of_ble_eq_true rfl⟩) (q_preV hK hP (ci := 1) (q0 := 21) rfl rfl rfl (q_preF hN hK hP hD)) rfl rfl hl.1 rfl (lv_room (Nat.le_of_ble_eq_true rfl)) dX1_clear_21 ⟨Nat.le_of_ble_eq_true rfl, Nat.le_of_ble_eq_true rfl⟩) hD hS hA (fun w1 H locs hw hP hD hS => ?_)
  subst hw
  refine lv_aload_n hx hb dX1_clear_24 rfl (lv_at hl 0 rfl) ?_
  refine lv_iconst (v := 1) hx hb dX1_clear_25 (by decide) ?_
  obtain ⟨s7, hc, hB⟩ := bindP_inv hB
  refine q_govF (va_runV (As := [.int 1]) (rest := []) C (ckX1_putNumber hc _) (cwV 1 hts gX1_clear_X1_putNumber rfl rfl rfl (by decide +kernel) ⟨Nat.le_of_ble_eq_true rfl, Nat.le_of_ble_eq_true rfl⟩) (q_preV hK hP (ci := 1) (q0 := 21) rfl rfl rfl (q_preF hN hK hP hD)) rfl rfl hl.1 rfl (lv_room (Nat.le_of_ble_eq_true rfl)) dX1_clear_26 ⟨Nat.le_of_ble_eq_true rfl, Nat.le_of_ble_eq_true rfl⟩) hD hS hA (fun w1 H locs hw hP hD hS => ?_)
  subst hw
  refine lv_aload_n hx hb dX1_clear_29 rfl (lv_at hl 0 rfl) ?_
  obtain ⟨s8, hc, hB⟩ := bindP_inv hB
  refine q_govF (va_runV (As := []) (rest := []) C (ckX1_endPart hc _) (cwV 0 hts gX1_clear_X1_endPart rfl rfl rfl (by decide +kernel) ⟨Nat.le_of_ble_eq_true rfl, Nat.le_of_ble_eq_true rfl⟩) (q_preV hK hP (ci := 1) (q0 := 21) rfl rfl rfl (q_preF hN hK hP hD)) rfl rfl hl.1 rfl (lv_room (Nat.le_of_ble_eq_true rfl)) dX1_clear_30 ⟨Nat.le_of_ble_eq_true rfl, Nat.le_of_ble_eq_true rfl⟩) hD hS hA (fun w1 H locs hw hP hD hS => ?_)
  subst hw
  refine lv_aload_n hx hb dX1_clear_33 rfl (lv_at hl 0 rfl) ?_
  refine lv_iconst (v := 2) hx hb dX1_clear_34 (by decide) ?_
  obtain ⟨s9, hc, hB⟩ := bindP_inv hB
  refine q_govF (va_runV (As := [.int 2]) (rest := []) C (ckX1_begin hc _) (cwV 1 hts gX1_clear_X1_begin rfl rfl rfl (by decide +kernel) ⟨Nat.le_of_ble_eq_true rfl, Nat.le_of_ble_eq_true rfl⟩) (q_preV hK hP (ci := 1) (q0 := 21) rfl rfl rfl (q_preF hN hK hP hD)) rfl rfl hl.1 rfl (lv_room (Nat.le_of_ble_eq_true rfl)) dX1_clear_35 ⟨Nat.le_of_ble_eq_true rfl, Nat.le_of_ble_eq_true rfl⟩) hD hS hA (fun w1 H locs hw hP hD hS => ?_)
  subst hw
  refine lv_aload_n hx hb dX1_clear_38 rfl (lv_at hl 0 rfl) ?_
  refine lv_iconst (v := 1) hx hb dX1_clear_39 (by decide) ?_
  obtain ⟨s10, hc, hB⟩ := bindP_inv hB
  refine q_govF (va_runV (As := [.int 1]) (rest := []) C (ckX1_putNumber hc _) (cwV 1 hts gX1_clear_X1_putNumber rfl rfl rfl (by decide +kernel) ⟨Nat.le_of_ble_eq_true rfl, Nat.le_of_ble_eq_true rfl⟩) (q_preV hK hP (ci := 1) (q0 := 21) rfl rfl rfl (q_preF hN hK hP hD)) rfl rfl hl.1 rfl (lv_room (Nat.le_of_ble_eq_true rfl)) dX1_clear_40 ⟨Nat.le_of_ble_eq_true rfl, Nat.le_of_ble_eq_true rfl⟩) hD hS hA (fun w1 H locs hw hP hD hS => ?_)
  subst hw
  refine lv_aload_n hx hb dX1_clear_43 rfl (lv_at hl 0 rfl) ?_
  obtain ⟨s11, hc, hB⟩ := bindP_inv hB
  refine q_govF (va_runV (As := []) (rest := []) C (ckX1_endPart hc _) (cwV 0 hts gX1_clear_X1_endPart rfl rfl rfl (by decide +kernel) ⟨Nat.le_of_ble_eq_true rfl, Nat.le_of_ble_eq_true rfl⟩) (q_preV hK hP (ci := 1) (q0 := 21) rfl rfl rfl (q_preF hN hK hP hD)) rfl rfl hl.1 rfl (lv_room (Nat.le_of_ble_eq_true rfl)) dX1_clear_44 ⟨Nat.le_of_ble_eq_true rfl, Nat.le_of_ble_eq_true rfl⟩) hD hS hA (fun w1 H locs hw hP hD hS => ?_)
  subst hw
  refine lv_aload_n hx hb dX1_clear_47 rfl (lv_at hl 0 rfl) ?_
  refine lv_iconst (v := 3) hx hb dX1_clear_48 (by decide) ?_
  obtain ⟨s12, hc, hB⟩ := bindP_inv hB
  refine q_govF (va_runV (As := [.int 3]) (rest := []) C (ckX1_begin hc _) (cwV 1 hts gX1_clear_X1_begin rfl rfl rfl (by decide +kernel) ⟨Nat.le_of_ble_eq_true rfl, Nat.le_of_ble_eq_true rfl⟩) (q_preV hK hP (ci := 1) (q0 := 21) rfl rfl rfl (q_preF hN hK hP hD)) rfl rfl hl.1 rfl (lv_room (Nat.le_of_ble_eq_true rfl)) dX1_clear_49 ⟨Nat.le_of_ble_eq_true rfl, Nat.le_of_ble_eq_true rfl⟩) hD hS hA (fun w1 H locs hw hP hD hS => ?_)
  subst hw
  refine lv_aload_n hx hb dX1_clear_52 rfl (lv_at hl 0 rfl) ?_
  refine lv_iconst (v := 0) hx hb dX1_clear_53 (by decide) ?_
  obtain ⟨s13, hc, hB⟩ := bindP_inv hB
  refine q_govF (va_runV (As := [.int 0]) (rest := []) C (ckX1_putNumber hc _) (cwV 1 hts gX1_clear_X1_putNumber rfl rfl rfl (by decide +kernel) ⟨Nat.le_of_ble_eq_true rfl, Nat.le_of_ble_eq_true rfl⟩) (q_preV hK hP (ci := 1) (q0 := 21) rfl rfl rfl (q_preF hN hK hP hD)) rfl rfl hl.1 rfl (lv_room (Nat.le_of_ble_eq_true rfl)) dX1_clear_54 ⟨Nat.le_of_ble_eq_true rfl, Nat.le_of_ble_eq_true rfl⟩) hD hS hA (fun w1 H locs hw hP hD hS => ?_)
  subst hw
  refine lv_aload_n hx hb dX1_clear_57 rfl (lv_at hl 0 rfl) ?_
  obtain ⟨s14, hc, hB⟩ := bindP_inv hB
  refine q_govF (va_runV (As := []) (rest := []) C (ckX1_endPart hc _) (cwV 0 hts gX1_clear_X1_endPart rfl rfl rfl (by decide +kernel) ⟨Nat.le_of_ble_eq_true rfl, Nat.le_of_ble_eq_true rfl⟩) (q_preV hK hP (ci := 1) (q0 := 21) rfl rfl rfl (q_preF hN hK hP hD)) rfl rfl hl.1 rfl (lv_room (Nat.le_of_ble_eq_true rfl)) dX1_clear_58 ⟨Nat.le_of_ble_eq_true rfl, Nat.le_of_ble_eq_true rfl⟩) hD hS hA (fun w1 H locs hw hP hD hS => ?_)
  subst hw
  exact q_vret C hr hlocks hK hP hD hS (Nat.le_of_ble_eq_true rfl) (Nat.le_of_ble_eq_true rfl) dX1_clear_61 (by cases hB; rfl)
theorem ckX1_clear {l : Launch} {dC : Nat → ClassId} {dI : Nat → Nat → Nat} {cB cI cJ cZ cS : ClassId} {a : Nat → Nat} {s' : KS} {s : KS} (hB : kX1_clear s = some s') : CV l yX1_clear wsX1_clear ({ frames := 2, cells := 0, slots := 0, locals := 42 }) (dC, dI) (tysA cB cI cJ cZ cS) (wK cB cI cJ cZ cS a s) [.ref (a 21)] (fun u => u = (wK cB cI cJ cZ cS a s')) :=
  CV_of (cc := cX1_clear) (maxL := 1) (ret := none) (by decide) rfl (Nat.le_of_ble_eq_true rfl) (bkX1_clear _ hB)
end
section
theorem ggX1_valueOf_X1_partValue : GoodIn wsX1_valueOf wsX1_partValue := gi_sub (fun w h => List.mem_cons_of_mem _ (List.mem_append_left _ (List.mem_append_right _ h))) gd_wsX1_partValue
set_option maxRecDepth 20000 in
theorem gX1_valueOf_X1_partValue : GoodIn wsX1_valueOf (wsV RX1 67 RX1 yX1_partValue wsX1_partValue) := goodIn_app (goodIn_r _ [3, 4, 5, 6] (by decide +kernel) (by decide +kernel)) ggX1_valueOf_X1_partValue
theorem dX1_valueOf_0 : decode cX1_valueOf 0 = .ok (.aload_n 0, 1) := dc1_42 (by decide +kernel)
theorem dX1_valueOf_1 : decode cX1_valueOf 1 = .ok (.iconst 0, 1) := dc1_3 (by decide +kernel)
theorem dX1_valueOf_2 : decode cX1_valueOf 2 = .ok (.putfield 63, 3) := dcw_181 (by decide +kernel)
theorem dX1_valueOf_5 : decode cX1_valueOf 5 = .ok (.aload_n 0, 1) := dc1_42 (by decide +kernel)
theorem dX1_valueOf_6 : decode cX1_valueOf 6 = .ok (.getfield 25, 3) := dcw_180 (by decide +kernel)
theorem dX1_valueOf_9 : decode cX1_valueOf 9 = .ok (.iload_n 1, 1) := dc1_27 (by decide +kernel)
theorem dX1_valueOf_10 : decode cX1_valueOf 10 = .ok (.iaload, 1) := dc1_46 (by decide +kernel)
theorem dX1_valueOf_11 : decode cX1_valueOf 11 = .ok (.iconst 1, 1) := dc1_4 (by decide +kernel)
theorem dX1_valueOf_12 : decode cX1_valueOf 12 = .ok (.isub, 1) := dc1_100 (by decide +kernel)
theorem dX1_valueOf_13 : decode cX1_valueOf 13 = .ok (.istore_n 2, 1) := dc1_61 (by decide +kernel)
theorem dX1_valueOf_14 : decode cX1_valueOf 14 = .ok (.iload_n 2, 1) := dc1_28 (by decide +kernel)
theorem dX1_valueOf_15 : decode cX1_valueOf 15 = .ok (.istore_n 3, 1) := dc1_62 (by decide +kernel)
theorem dX1_valueOf_16 : decode cX1_valueOf 16 = .ok (.iconst 0, 1) := dc1_3 (by decide +kernel)
theorem dX1_valueOf_17 : decode cX1_valueOf 17 = .ok (.istore 4, 2) := dcu_54 (by decide +kernel)
theorem dX1_valueOf_19 : decode cX1_valueOf 19 = .ok (.iload 4, 2) := dcu_21 (by decide +kernel)
theorem dX1_valueOf_21 : decode cX1_valueOf 21 = .ok (.iconst 2, 1) := dc1_5 (by decide +kernel)
theorem dX1_valueOf_22 : decode cX1_valueOf 22 = .ok (.iadd, 1) := dc1_96 (by decide +kernel)
theorem dX1_valueOf_23 : decode cX1_valueOf 23 = .ok (.iload_n 2, 1) := dc1_28 (by decide +kernel)
theorem dX1_valueOf_24 : decode cX1_valueOf 24 = .ok (.if_icmp .ge 53, 3) := dcs_162 (n := 53) (by decide +kernel)
theorem dX1_valueOf_27 : decode cX1_valueOf 27 = .ok (.aload_n 0, 1) := dc1_42 (by decide +kernel)
theorem dX1_valueOf_28 : decode cX1_valueOf 28 = .ok (.iload_n 1, 1) := dc1_27 (by decide +kernel)
theorem dX1_valueOf_29 : decode cX1_valueOf 29 = .ok (.iload 4, 2) := dcu_21 (by decide +kernel)
theorem dX1_valueOf_31 : decode cX1_valueOf 31 = .ok (.invokevirtual 67, 3) := dcw_182 (by decide +kernel)
theorem dX1_valueOf_34 : decode cX1_valueOf 34 = .ok (.istore 5, 2) := dcu_54 (by decide +kernel)
theorem dX1_valueOf_36 : decode cX1_valueOf 36 = .ok (.aload_n 0, 1) := dc1_42 (by decide +kernel)
theorem dX1_valueOf_37 : decode cX1_valueOf 37 = .ok (.iload_n 1, 1) := dc1_27 (by decide +kernel)
theorem dX1_valueOf_38 : decode cX1_valueOf 38 = .ok (.iload 4, 2) := dcu_21 (by decide +kernel)
theorem dX1_valueOf_40 : decode cX1_valueOf 40 = .ok (.iconst 1, 1) := dc1_4 (by decide +kernel)
theorem dX1_valueOf_41 : decode cX1_valueOf 41 = .ok (.iadd, 1) := dc1_96 (by decide +kernel)
theorem dX1_valueOf_42 : decode cX1_valueOf 42 = .ok (.invokevirtual 67, 3) := dcw_182 (by decide +kernel)
theorem dX1_valueOf_45 : decode cX1_valueOf 45 = .ok (.istore 6, 2) := dcu_54 (by decide +kernel)
theorem dX1_valueOf_47 : decode cX1_valueOf 47 = .ok (.aload_n 0, 1) := dc1_42 (by decide +kernel)
theorem dX1_valueOf_48 : decode cX1_valueOf 48 = .ok (.getfield 63, 3) := dcw_180 (by decide +kernel)
theorem dX1_valueOf_51 : decode cX1_valueOf 51 = .ok (.ifCond .eq 5, 3) := dcs_153 (n := 5) (by decide +kernel)
theorem dX1_valueOf_54 : decode cX1_valueOf 54 = .ok (.iconst 0, 1) := dc1_3 (by decide +kernel)
theorem dX1_valueOf_55 : decode cX1_valueOf 55 = .ok (.ireturn, 1) := dc1_172 (by decide +kernel)
theorem dX1_valueOf_56 : decode cX1_valueOf 56 = .ok (.iload 5, 2) := dcu_21 (by decide +kernel)
theorem dX1_valueOf_58 : decode cX1_valueOf 58 = .ok (.iload 6, 2) := dcu_21 (by decide +kernel)
theorem dX1_valueOf_60 : decode cX1_valueOf 60 = .ok (.if_icmp .ge 11, 3) := dcs_162 (n := 11) (by decide +kernel)
theorem dX1_valueOf_63 : decode cX1_valueOf 63 = .ok (.iload 4, 2) := dcu_21 (by decide +kernel)
theorem dX1_valueOf_65 : decode cX1_valueOf 65 = .ok (.iconst 2, 1) := dc1_5 (by decide +kernel)
theorem dX1_valueOf_66 : decode cX1_valueOf 66 = .ok (.iadd, 1) := dc1_96 (by decide +kernel)
theorem dX1_valueOf_67 : decode cX1_valueOf 67 = .ok (.istore_n 3, 1) := dc1_62 (by decide +kernel)
theorem dX1_valueOf_68 : decode cX1_valueOf 68 = .ok (.goto 9, 3) := dcs_167 (n := 9) (by decide +kernel)
theorem dX1_valueOf_71 : decode cX1_valueOf 71 = .ok (.iinc 4 3, 3) := dc_iinc (m := 3) (by decide +kernel)
theorem dX1_valueOf_74 : decode cX1_valueOf 74 = .ok (.goto (-55), 3) := dcs_167 (n := 65481) (by decide +kernel)
theorem dX1_valueOf_77 : decode cX1_valueOf 77 = .ok (.aload_n 0, 1) := dc1_42 (by decide +kernel)
theorem dX1_valueOf_78 : decode cX1_valueOf 78 = .ok (.iload_n 1, 1) := dc1_27 (by decide +kernel)
theorem dX1_valueOf_79 : decode cX1_valueOf 79 = .ok (.iload_n 3, 1) := dc1_29 (by decide +kernel)
theorem dX1_valueOf_80 : decode cX1_valueOf 80 = .ok (.invokevirtual 67, 3) := dcw_182 (by decide +kernel)
theorem dX1_valueOf_83 : decode cX1_valueOf 83 = .ok (.istore 4, 2) := dcu_54 (by decide +kernel)
theorem dX1_valueOf_85 : decode cX1_valueOf 85 = .ok (.aload_n 0, 1) := dc1_42 (by decide +kernel)
theorem dX1_valueOf_86 : decode cX1_valueOf 86 = .ok (.getfield 63, 3) := dcw_180 (by decide +kernel)
theorem dX1_valueOf_89 : decode cX1_valueOf 89 = .ok (.ifCond .eq 7, 3) := dcs_153 (n := 7) (by decide +kernel)
theorem dX1_valueOf_92 : decode cX1_valueOf 92 = .ok (.iconst 0, 1) := dc1_3 (by decide +kernel)
theorem dX1_valueOf_93 : decode cX1_valueOf 93 = .ok (.goto 5, 3) := dcs_167 (n := 5) (by decide +kernel)
theorem dX1_valueOf_96 : decode cX1_valueOf 96 = .ok (.iload 4, 2) := dcu_21 (by decide +kernel)
theorem dX1_valueOf_98 : decode cX1_valueOf 98 = .ok (.ireturn, 1) := dc1_172 (by decide +kernel)
theorem ggX2_oddsOfAll_X2_oddsIfMay : GoodIn wsX2_oddsOfAll wsX2_oddsIfMay := gi_sub (fun w h => List.mem_cons_of_mem _ (List.mem_append_left _ (List.mem_append_left _ (List.mem_append_left _ (List.mem_append_left _ (List.mem_append_right _ h)))))) gd_wsX2_oddsIfMay
set_option maxRecDepth 20000 in
theorem gX2_oddsOfAll_X2_oddsIfMay : GoodIn wsX2_oddsOfAll (wsV RX2 53 RX2 yX2_oddsIfMay wsX2_oddsIfMay) := goodIn_app (goodIn_r _ [2, 3, 4, 5] (by decide +kernel) (by decide +kernel)) ggX2_oddsOfAll_X2_oddsIfMay
theorem dX2_oddsOfAll_0 : decode cX2_oddsOfAll 0 = .ok (.iconst 1, 1) := dc1_4 (by decide +kernel)
theorem dX2_oddsOfAll_1 : decode cX2_oddsOfAll 1 = .ok (.istore_n 3, 1) := dc1_62 (by decide +kernel)
theorem dX2_oddsOfAll_2 : decode cX2_oddsOfAll 2 = .ok (.iconst 0, 1) := dc1_3 (by decide +kernel)
theorem dX2_oddsOfAll_3 : decode cX2_oddsOfAll 3 = .ok (.istore 4, 2) := dcu_54 (by decide +kernel)
theorem dX2_oddsOfAll_5 : decode cX2_oddsOfAll 5 = .ok (.iload 4, 2) := dcu_21 (by decide +kernel)
theorem dX2_oddsOfAll_7 : decode cX2_oddsOfAll 7 = .ok (.aload_n 0, 1) := dc1_42 (by decide +kernel)
theorem dX2_oddsOfAll_8 : decode cX2_oddsOfAll 8 = .ok (.getfield 24, 3) := dcw_180 (by decide +kernel)
theorem dX2_oddsOfAll_11 : decode cX2_oddsOfAll 11 = .ok (.getfield 44, 3) := dcw_180 (by decide +kernel)
theorem dX2_oddsOfAll_14 : decode cX2_oddsOfAll 14 = .ok (.if_icmp .ge 53, 3) := dcs_162 (n := 53) (by decide +kernel)
theorem dX2_oddsOfAll_17 : decode cX2_oddsOfAll 17 = .ok (.iload 4, 2) := dcu_21 (by decide +kernel)
theorem dX2_oddsOfAll_19 : decode cX2_oddsOfAll 19 = .ok (.iload_n 2, 1) := dc1_28 (by decide +kernel)
theorem dX2_oddsOfAll_20 : decode cX2_oddsOfAll 20 = .ok (.if_icmp .eq 41, 3) := dcs_159 (n := 41) (by decide +kernel)
theorem dX2_oddsOfAll_23 : decode cX2_oddsOfAll 23 = .ok (.iconst 0, 1) := dc1_3 (by decide +kernel)
theorem dX2_oddsOfAll_24 : decode cX2_oddsOfAll 24 = .ok (.istore 5, 2) := dcu_54 (by decide +kernel)
theorem dX2_oddsOfAll_26 : decode cX2_oddsOfAll 26 = .ok (.iconst 0, 1) := dc1_3 (by decide +kernel)
theorem dX2_oddsOfAll_27 : decode cX2_oddsOfAll 27 = .ok (.istore 6, 2) := dcu_54 (by decide +kernel)
theorem dX2_oddsOfAll_29 : decode cX2_oddsOfAll 29 = .ok (.iload 6, 2) := dcu_21 (by decide +kernel)
theorem dX2_oddsOfAll_31 : decode cX2_oddsOfAll 31 = .ok (.bipush 6, 2) := dcb_16 (n := 6) (by decide +kernel)
theorem dX2_oddsOfAll_33 : decode cX2_oddsOfAll 33 = .ok (.if_icmp .ge 23, 3) := dcs_162 (n := 23) (by decide +kernel)
theorem dX2_oddsOfAll_36 : decode cX2_oddsOfAll 36 = .ok (.iload 5, 2) := dcu_21 (by decide +kernel)
theorem dX2_oddsOfAll_38 : decode cX2_oddsOfAll 38 = .ok (.aload_n 0, 1) := dc1_42 (by decide +kernel)
theorem dX2_oddsOfAll_39 : decode cX2_oddsOfAll 39 = .ok (.aload_n 1, 1) := dc1_43 (by decide +kernel)
theorem dX2_oddsOfAll_40 : decode cX2_oddsOfAll 40 = .ok (.iload 4, 2) := dcu_21 (by decide +kernel)
theorem dX2_oddsOfAll_42 : decode cX2_oddsOfAll 42 = .ok (.iload 6, 2) := dcu_21 (by decide +kernel)
theorem dX2_oddsOfAll_44 : decode cX2_oddsOfAll 44 = .ok (.invokevirtual 53, 3) := dcw_182 (by decide +kernel)
theorem dX2_oddsOfAll_47 : decode cX2_oddsOfAll 47 = .ok (.iadd, 1) := dc1_96 (by decide +kernel)
theorem dX2_oddsOfAll_48 : decode cX2_oddsOfAll 48 = .ok (.istore 5, 2) := dcu_54 (by decide +kernel)
theorem dX2_oddsOfAll_50 : decode cX2_oddsOfAll 50 = .ok (.iinc 6 1, 3) := dc_iinc (m := 1) (by decide +kernel)
theorem dX2_oddsOfAll_53 : decode cX2_oddsOfAll 53 = .ok (.goto (-24), 3) := dcs_167 (n := 65512) (by decide +kernel)
theorem dX2_oddsOfAll_56 : decode cX2_oddsOfAll 56 = .ok (.iload_n 3, 1) := dc1_29 (by decide +kernel)
theorem dX2_oddsOfAll_57 : decode cX2_oddsOfAll 57 = .ok (.iload 5, 2) := dcu_21 (by decide +kernel)
theorem dX2_oddsOfAll_59 : decode cX2_oddsOfAll 59 = .ok (.imul, 1) := dc1_104 (by decide +kernel)
theorem dX2_oddsOfAll_60 : decode cX2_oddsOfAll 60 = .ok (.istore_n 3, 1) := dc1_62 (by decide +kernel)
theorem dX2_oddsOfAll_61 : decode cX2_oddsOfAll 61 = .ok (.iinc 4 1, 3) := dc_iinc (m := 1) (by decide +kernel)
theorem dX2_oddsOfAll_64 : decode cX2_oddsOfAll 64 = .ok (.goto (-59), 3) := dcs_167 (n := 65477) (by decide +kernel)
theorem dX2_oddsOfAll_67 : decode cX2_oddsOfAll 67 = .ok (.iload_n 3, 1) := dc1_29 (by decide +kernel)
theorem dX2_oddsOfAll_68 : decode cX2_oddsOfAll 68 = .ok (.ireturn, 1) := dc1_172 (by decide +kernel)
theorem ggX5_clear_X1_clear : GoodIn wsX5_clear wsX1_clear := gi_sub (fun w h => List.mem_cons_of_mem _ (List.mem_append_left _ (List.mem_append_left _ (List.mem_append_right _ h)))) gd_wsX1_clear
set_option maxRecDepth 20000 in
theorem gX5_clear_X1_clear_n50 : GoodIn wsX5_clear (wsX1_clear) := ggX5_clear_X1_clear
theorem dX5_clear_0 : decode cX5_clear 0 = .ok (.aload_n 0, 1) := dc1_42 (by decide +kernel)
theorem dX5_clear_1 : decode cX5_clear 1 = .ok (.iconst 0, 1) := dc1_3 (by decide +kernel)
theorem dX5_clear_2 : decode cX5_clear 2 = .ok (.putfield 37, 3) := dcw_181 (by decide +kernel)
theorem dX5_clear_5 : decode cX5_clear 5 = .ok (.aload_n 0, 1) := dc1_42 (by decide +kernel)
theorem dX5_clear_6 : decode cX5_clear 6 = .ok (.iconst 0, 1) := dc1_3 (by decide +kernel)
theorem dX5_clear_7 : decode cX5_clear 7 = .ok (.putfield 41, 3) := dcw_181 (by decide +kernel)
theorem dX5_clear_10 : decode cX5_clear 10 = .ok (.aload_n 0, 1) := dc1_42 (by decide +kernel)
theorem dX5_clear_11 : decode cX5_clear 11 = .ok (.iconst 1, 1) := dc1_4 (by decide +kernel)
theorem dX5_clear_12 : decode cX5_clear 12 = .ok (.putfield 44, 3) := dcw_181 (by decide +kernel)
theorem dX5_clear_15 : decode cX5_clear 15 = .ok (.aload_n 0, 1) := dc1_42 (by decide +kernel)
theorem dX5_clear_16 : decode cX5_clear 16 = .ok (.iconst 0, 1) := dc1_3 (by decide +kernel)
theorem dX5_clear_17 : decode cX5_clear 17 = .ok (.putfield 47, 3) := dcw_181 (by decide +kernel)
theorem dX5_clear_20 : decode cX5_clear 20 = .ok (.aload_n 0, 1) := dc1_42 (by decide +kernel)
theorem dX5_clear_21 : decode cX5_clear 21 = .ok (.getfield 30, 3) := dcw_180 (by decide +kernel)
theorem dX5_clear_24 : decode cX5_clear 24 = .ok (.invokevirtual 50, 3) := dcw_182 (by decide +kernel)
theorem dX5_clear_27 : decode cX5_clear 27 = .ok (.return_, 1) := dc1_177 (by decide +kernel)
theorem ggX5_thingThere_X10_lot : GoodIn wsX5_thingThere wsX10_lot := gi_sub (fun w h => List.mem_cons_of_mem _ (List.mem_append_left _ (List.mem_append_right _ (List.mem_append_left _ h)))) gd_wsX10_lot
set_option maxRecDepth 20000 in
theorem gX5_thingThere_X10_lot_n65 : GoodIn wsX5_thingThere (wsX10_lot) := ggX5_thingThere_X10_lot
theorem ggX5_thingThere_X5_oddsAt : GoodIn wsX5_thingThere wsX5_oddsAt := gi_sub (fun w h => List.mem_cons_of_mem _ (List.mem_append_left _ (List.mem_append_right _ (List.mem_append_right _ h)))) gd_wsX5_oddsAt
set_option maxRecDepth 20000 in
theorem gX5_thingThere_X5_oddsAt : GoodIn wsX5_thingThere (wsV RX5 51 RX5 yX5_oddsAt wsX5_oddsAt) := goodIn_app (goodIn_r _ [4, 5, 6, 7] (by decide +kernel) (by decide +kernel)) ggX5_thingThere_X5_oddsAt
theorem dX5_thingThere_0 : decode cX5_thingThere 0 = .ok (.aload_n 0, 1) := dc1_42 (by decide +kernel)
theorem dX5_thingThere_1 : decode cX5_thingThere 1 = .ok (.getfield 15, 3) := dcw_180 (by decide +kernel)
theorem dX5_thingThere_4 : decode cX5_thingThere 4 = .ok (.iload_n 1, 1) := dc1_27 (by decide +kernel)
theorem dX5_thingThere_5 : decode cX5_thingThere 5 = .ok (.iaload, 1) := dc1_46 (by decide +kernel)
theorem dX5_thingThere_6 : decode cX5_thingThere 6 = .ok (.iload_n 3, 1) := dc1_29 (by decide +kernel)
theorem dX5_thingThere_7 : decode cX5_thingThere 7 = .ok (.bipush 8, 2) := dcb_16 (n := 8) (by decide +kernel)
theorem dX5_thingThere_9 : decode cX5_thingThere 9 = .ok (.iload_n 2, 1) := dc1_28 (by decide +kernel)
theorem dX5_thingThere_10 : decode cX5_thingThere 10 = .ok (.imul, 1) := dc1_104 (by decide +kernel)
theorem dX5_thingThere_11 : decode cX5_thingThere 11 = .ok (.iload_n 1, 1) := dc1_27 (by decide +kernel)
theorem dX5_thingThere_12 : decode cX5_thingThere 12 = .ok (.iadd, 1) := dc1_96 (by decide +kernel)
theorem dX5_thingThere_13 : decode cX5_thingThere 13 = .ok (.invokestatic 65, 3) := dcw_184 (by decide +kernel)
theorem dX5_thingThere_16 : decode cX5_thingThere 16 = .ok (.istore 4, 2) := dcu_54 (by decide +kernel)
theorem dX5_thingThere_18 : decode cX5_thingThere 18 = .ok (.iconst 0, 1) := dc1_3 (by decide +kernel)
theorem dX5_thingThere_19 : decode cX5_thingThere 19 = .ok (.istore 5, 2) := dcu_54 (by decide +kernel)
theorem dX5_thingThere_21 : decode cX5_thingThere 21 = .ok (.iconst 0, 1) := dc1_3 (by decide +kernel)
theorem dX5_thingThere_22 : decode cX5_thingThere 22 = .ok (.istore 6, 2) := dcu_54 (by decide +kernel)
theorem dX5_thingThere_24 : decode cX5_thingThere 24 = .ok (.iload 6, 2) := dcu_21 (by decide +kernel)
theorem dX5_thingThere_26 : decode cX5_thingThere 26 = .ok (.bipush 6, 2) := dcb_16 (n := 6) (by decide +kernel)
theorem dX5_thingThere_28 : decode cX5_thingThere 28 = .ok (.if_icmp .ge 31, 3) := dcs_162 (n := 31) (by decide +kernel)
theorem dX5_thingThere_31 : decode cX5_thingThere 31 = .ok (.iload 5, 2) := dcu_21 (by decide +kernel)
theorem dX5_thingThere_33 : decode cX5_thingThere 33 = .ok (.aload_n 0, 1) := dc1_42 (by decide +kernel)
theorem dX5_thingThere_34 : decode cX5_thingThere 34 = .ok (.iload_n 1, 1) := dc1_27 (by decide +kernel)
theorem dX5_thingThere_35 : decode cX5_thingThere 35 = .ok (.iload 6, 2) := dcu_21 (by decide +kernel)
theorem dX5_thingThere_37 : decode cX5_thingThere 37 = .ok (.invokevirtual 51, 3) := dcw_182 (by decide +kernel)
theorem dX5_thingThere_40 : decode cX5_thingThere 40 = .ok (.iadd, 1) := dc1_96 (by decide +kernel)
theorem dX5_thingThere_41 : decode cX5_thingThere 41 = .ok (.istore 5, 2) := dcu_54 (by decide +kernel)
theorem dX5_thingThere_43 : decode cX5_thingThere 43 = .ok (.iload 5, 2) := dcu_21 (by decide +kernel)
theorem dX5_thingThere_45 : decode cX5_thingThere 45 = .ok (.iload 4, 2) := dcu_21 (by decide +kernel)
theorem dX5_thingThere_47 : decode cX5_thingThere 47 = .ok (.if_icmp .le 6, 3) := dcs_164 (n := 6) (by decide +kernel)
theorem dX5_thingThere_50 : decode cX5_thingThere 50 = .ok (.iload 6, 2) := dcu_21 (by decide +kernel)
theorem dX5_thingThere_52 : decode cX5_thingThere 52 = .ok (.ireturn, 1) := dc1_172 (by decide +kernel)
theorem dX5_thingThere_53 : decode cX5_thingThere 53 = .ok (.iinc 6 1, 3) := dc_iinc (m := 1) (by decide +kernel)
theorem dX5_thingThere_56 : decode cX5_thingThere 56 = .ok (.goto (-32), 3) := dcs_167 (n := 65504) (by decide +kernel)
theorem dX5_thingThere_59 : decode cX5_thingThere 59 = .ok (.iconst 5, 1) := dc1_8 (by decide +kernel)
theorem dX5_thingThere_60 : decode cX5_thingThere 60 = .ok (.ireturn, 1) := dc1_172 (by decide +kernel)
theorem ggX8_believe_X0_mayBe : GoodIn wsX8_believe wsX0_mayBe := gi_sub (fun w h => List.mem_cons_of_mem _ (List.mem_append_left _ (List.mem_append_left _ (List.mem_append_left _ (List.mem_append_left _ (List.mem_append_right _ (List.mem_append_left _ h))))))) gd_wsX0_mayBe
set_option maxRecDepth 20000 in
theorem gX8_believe_X0_mayBe_n44 : GoodIn wsX8_believe (wsX0_mayBe) := ggX8_believe_X0_mayBe
theorem ggX8_believe_X10_has : GoodIn wsX8_believe wsX10_has := gi_sub (fun w h => List.mem_cons_of_mem _ (List.mem_append_left _ (List.mem_append_left _ (List.mem_append_left _ (List.mem_append_left _ (List.mem_append_right _ (List.mem_append_right _ (List.mem_append_left _ h)))))))) gd_wsX10_has
set_option maxRecDepth 20000 in
theorem gX8_believe_X10_has_n50 : GoodIn wsX8_believe (wsX10_has) := ggX8_believe_X10_has
theorem ggX8_believe_X5_oddsAt : GoodIn wsX8_believe wsX5_oddsAt := gi_sub (fun w h => List.mem_cons_of_mem _ (List.mem_append_left _ (List.mem_append_left _ (List.mem_append_left _ (List.mem_append_left _ (List.mem_append_right _ (List.mem_append_right _ (List.mem_append_right _ (List.mem_append_left _ h))))))))) gd_wsX5_oddsAt
set_option maxRecDepth 20000 in
theorem gX8_believe_X5_oddsAt_n54 : GoodIn wsX8_believe (wsX5_oddsAt) := ggX8_believe_X5_oddsAt
theorem ggX8_believe_X8_beliedBy : GoodIn wsX8_believe wsX8_beliedBy := gi_sub (fun w h => List.mem_cons_of_mem _ (List.mem_append_left _ (List.mem_append_left _ (List.mem_append_left _ (List.mem_append_left _ (List.mem_append_right _ (List.mem_append_right _ (List.mem_append_right _ (List.mem_append_right _ h))))))))) gd_wsX8_beliedBy
set_option maxRecDepth 20000 in
theorem gX8_believe_X8_beliedBy : GoodIn wsX8_believe (wsV RX8 58 RX8 yX8_beliedBy wsX8_beliedBy) := goodIn_app (goodIn_r _ [13, 14, 15, 16] (by decide +kernel) (by decide +kernel)) ggX8_believe_X8_beliedBy
theorem dX8_believe_0 : decode cX8_believe 0 = .ok (.iconst 0, 1) := dc1_3 (by decide +kernel)
theorem dX8_believe_1 : decode cX8_believe 1 = .ok (.istore_n 3, 1) := dc1_62 (by decide +kernel)
theorem dX8_believe_2 : decode cX8_believe 2 = .ok (.iload_n 3, 1) := dc1_29 (by decide +kernel)
theorem dX8_believe_3 : decode cX8_believe 3 = .ok (.aload_n 0, 1) := dc1_42 (by decide +kernel)
theorem dX8_believe_4 : decode cX8_believe 4 = .ok (.getfield 27, 3) := dcw_180 (by decide +kernel)
theorem dX8_believe_7 : decode cX8_believe 7 = .ok (.getfield 39, 3) := dcw_180 (by decide +kernel)
theorem dX8_believe_10 : decode cX8_believe 10 = .ok (.if_icmp .ge 91, 3) := dcs_162 (n := 91) (by decide +kernel)
theorem dX8_believe_13 : decode cX8_believe 13 = .ok (.aload_n 0, 1) := dc1_42 (by decide +kernel)
theorem dX8_believe_14 : decode cX8_believe 14 = .ok (.getfield 31, 3) := dcw_180 (by decide +kernel)
theorem dX8_believe_17 : decode cX8_believe 17 = .ok (.aload_n 1, 1) := dc1_43 (by decide +kernel)
theorem dX8_believe_18 : decode cX8_believe 18 = .ok (.iload_n 3, 1) := dc1_29 (by decide +kernel)
theorem dX8_believe_19 : decode cX8_believe 19 = .ok (.invokevirtual 44, 3) := dcw_182 (by decide +kernel)
theorem dX8_believe_22 : decode cX8_believe 22 = .ok (.istore 4, 2) := dcu_54 (by decide +kernel)
theorem dX8_believe_24 : decode cX8_believe 24 = .ok (.iconst 0, 1) := dc1_3 (by decide +kernel)
theorem dX8_believe_25 : decode cX8_believe 25 = .ok (.istore 5, 2) := dcu_54 (by decide +kernel)
theorem dX8_believe_27 : decode cX8_believe 27 = .ok (.iload 5, 2) := dcu_21 (by decide +kernel)
theorem dX8_believe_29 : decode cX8_believe 29 = .ok (.bipush 6, 2) := dcb_16 (n := 6) (by decide +kernel)
theorem dX8_believe_31 : decode cX8_believe 31 = .ok (.if_icmp .ge 64, 3) := dcs_162 (n := 64) (by decide +kernel)
theorem dX8_believe_34 : decode cX8_believe 34 = .ok (.iload_n 3, 1) := dc1_29 (by decide +kernel)
theorem dX8_believe_35 : decode cX8_believe 35 = .ok (.bipush 6, 2) := dcb_16 (n := 6) (by decide +kernel)
theorem dX8_believe_37 : decode cX8_believe 37 = .ok (.imul, 1) := dc1_104 (by decide +kernel)
theorem dX8_believe_38 : decode cX8_believe 38 = .ok (.iload 5, 2) := dcu_21 (by decide +kernel)
theorem dX8_believe_40 : decode cX8_believe 40 = .ok (.iadd, 1) := dc1_96 (by decide +kernel)
theorem dX8_believe_41 : decode cX8_believe 41 = .ok (.istore 6, 2) := dcu_54 (by decide +kernel)
theorem dX8_believe_43 : decode cX8_believe 43 = .ok (.aload_n 0, 1) := dc1_42 (by decide +kernel)
theorem dX8_believe_44 : decode cX8_believe 44 = .ok (.getfield 18, 3) := dcw_180 (by decide +kernel)
theorem dX8_believe_47 : decode cX8_believe 47 = .ok (.iload 6, 2) := dcu_21 (by decide +kernel)
theorem dX8_believe_49 : decode cX8_believe 49 = .ok (.iload 4, 2) := dcu_21 (by decide +kernel)
theorem dX8_believe_51 : decode cX8_believe 51 = .ok (.iload 5, 2) := dcu_21 (by decide +kernel)
theorem dX8_believe_53 : decode cX8_believe 53 = .ok (.invokestatic 50, 3) := dcw_184 (by decide +kernel)
theorem dX8_believe_56 : decode cX8_believe 56 = .ok (.ifCond .eq 16, 3) := dcs_153 (n := 16) (by decide +kernel)
theorem dX8_believe_59 : decode cX8_believe 59 = .ok (.aload_n 0, 1) := dc1_42 (by decide +kernel)
theorem dX8_believe_60 : decode cX8_believe 60 = .ok (.getfield 27, 3) := dcw_180 (by decide +kernel)
theorem dX8_believe_63 : decode cX8_believe 63 = .ok (.iload_n 3, 1) := dc1_29 (by decide +kernel)
theorem dX8_believe_64 : decode cX8_believe 64 = .ok (.iload 5, 2) := dcu_21 (by decide +kernel)
theorem dX8_believe_66 : decode cX8_believe 66 = .ok (.invokevirtual 54, 3) := dcw_182 (by decide +kernel)
theorem dX8_believe_69 : decode cX8_believe 69 = .ok (.goto 4, 3) := dcs_167 (n := 4) (by decide +kernel)
theorem dX8_believe_72 : decode cX8_believe 72 = .ok (.iconst 0, 1) := dc1_3 (by decide +kernel)
theorem dX8_believe_73 : decode cX8_believe 73 = .ok (.iastore, 1) := dc1_79 (by decide +kernel)
theorem dX8_believe_74 : decode cX8_believe 74 = .ok (.aload_n 0, 1) := dc1_42 (by decide +kernel)
theorem dX8_believe_75 : decode cX8_believe 75 = .ok (.getfield 21, 3) := dcw_180 (by decide +kernel)
theorem dX8_believe_78 : decode cX8_believe 78 = .ok (.iload 6, 2) := dcu_21 (by decide +kernel)
theorem dX8_believe_80 : decode cX8_believe 80 = .ok (.aload_n 0, 1) := dc1_42 (by decide +kernel)
theorem dX8_believe_81 : decode cX8_believe 81 = .ok (.iload_n 3, 1) := dc1_29 (by decide +kernel)
theorem dX8_believe_82 : decode cX8_believe 82 = .ok (.iload 5, 2) := dcu_21 (by decide +kernel)
theorem dX8_believe_84 : decode cX8_believe 84 = .ok (.iload_n 2, 1) := dc1_28 (by decide +kernel)
theorem dX8_believe_85 : decode cX8_believe 85 = .ok (.invokevirtual 58, 3) := dcw_182 (by decide +kernel)
theorem dX8_believe_88 : decode cX8_believe 88 = .ok (.iastore, 1) := dc1_79 (by decide +kernel)
theorem dX8_believe_89 : decode cX8_believe 89 = .ok (.iinc 5 1, 3) := dc_iinc (m := 1) (by decide +kernel)
theorem dX8_believe_92 : decode cX8_believe 92 = .ok (.goto (-65), 3) := dcs_167 (n := 65471) (by decide +kernel)
theorem dX8_believe_95 : decode cX8_believe 95 = .ok (.iinc 3 1, 3) := dc_iinc (m := 1) (by decide +kernel)
theorem dX8_believe_98 : decode cX8_believe 98 = .ok (.goto (-96), 3) := dcs_167 (n := 65440) (by decide +kernel)
theorem dX8_believe_101 : decode cX8_believe 101 = .ok (.return_, 1) := dc1_177 (by decide +kernel)
theorem ggX10_all_X2_oddsOfAll : GoodIn wsX10_all wsX2_oddsOfAll := gi_sub (fun w h => List.mem_cons_of_mem _ (List.mem_append_left _ (List.mem_append_left _ (List.mem_append_left _ (List.mem_append_left _ (List.mem_append_left _ (List.mem_append_right _ h))))))) gd_wsX2_oddsOfAll
set_option maxRecDepth 20000 in
theorem gX10_all_X2_oddsOfAll_n203 : GoodIn wsX10_all (wsX2_oddsOfAll) := ggX10_all_X2_oddsOfAll
theorem dX10_all_0 : decode cX10_all 0 = .ok (.aload_n 0, 1) := dc1_42 (by decide +kernel)
theorem dX10_all_1 : decode cX10_all 1 = .ok (.getfield 63, 3) := dcw_180 (by decide +kernel)
theorem dX10_all_4 : decode cX10_all 4 = .ok (.aload_n 0, 1) := dc1_42 (by decide +kernel)
theorem dX10_all_5 : decode cX10_all 5 = .ok (.getfield 35, 3) := dcw_180 (by decide +kernel)
theorem dX10_all_8 : decode cX10_all 8 = .ok (.iconst (-1), 1) := dc1_2 (by decide +kernel)
theorem dX10_all_9 : decode cX10_all 9 = .ok (.invokevirtual 203, 3) := dcw_182 (by decide +kernel)
theorem dX10_all_12 : decode cX10_all 12 = .ok (.ireturn, 1) := dc1_172 (by decide +kernel)
theorem LX1_valueOf_25 : Cond.fieldLink RX1 25 "GuessFerry$Laws" "partCounts" "[I" ∈ wsX1_valueOf := (List.mem_cons_of_mem _ (List.mem_append_left _ (List.mem_append_left _ (List.mem_of_getElem? (i := 1) rfl))))
theorem LX1_valueOf_63 : Cond.fieldLink RX1 63 "GuessFerry$Laws" "isByZero" "Z" ∈ wsX1_valueOf := (List.mem_cons_of_mem _ (List.mem_append_left _ (List.mem_append_left _ (List.mem_of_getElem? (i := 0) rfl))))
theorem inX1_valueOf_X1 : ∀ w ∈ u_ws RX1 TX1 9, w ∈ wsX1_valueOf := fun w h => (List.mem_cons_of_mem _ (List.mem_append_right _ h))
set_option maxHeartbeats 4000000 in
set_option maxRecDepth 100000 in
theorem bkX1_valueOf_77 {l : Launch} {dC : Nat → ClassId} {dI : Nat → Nat → Nat} {cB cI cJ cZ cS : ClassId} {a : Nat → Nat} {as : List Value} {r : Int32} {s' : KS} (s : KS) (x1 : Int32) (x3 : Int32) (hB : kX1_valueOf_77 s x1 x3 = some (r, s')) : BlkI l yX1_valueOf wsX1_valueOf ({ frames := 2, cells := 0, slots := 0, locals := 50 }) cX1_valueOf 7 (some .int) (dC, dI) (tysA cB cI cJ cZ cS) as 77 (wK cB cI cJ cZ cS a s) [(0, .ref (a 8)), (1, .int x1), (3, .int x3)] [] (fun x u => x = r ∧ u = (wK cB cI cJ cZ cS a s')) := by
  intro p e s0 m below meth c A E H locs ls hP hD hS hl
  obtain ⟨C, hr, hlocks, hA, hK, hN⟩ := id E
  obtain ⟨hx, hb, hml, hown, hts⟩ := id C
  unfold kX1_valueOf_77 at hB
  refine lv_aload_n hx hb dX1_valueOf_77 rfl (lv_at hl 0 rfl) ?_
  refine lv_iload_n hx hb dX1_valueOf_78 rfl (lv_at hl 1 rfl) ?_
  refine lv_iload_n hx hb dX1_valueOf_79 rfl (lv_at hl 2 rfl) ?_
  obtain ⟨q_, s1, hc, hB⟩ := bindI_inv hB
  refine q_goiF (va_runV (As := [.int x1, .int x3]) (rest := []) C (ckX1_partValue hc _) (cwV 2 hts gX1_valueOf_X1_partValue rfl rfl rfl (by decide +kernel) ⟨Nat.le_of_ble_eq_true rfl, Nat.le_of_ble_eq_true rfl⟩) (q_preV hK hP (ci := 1) (q0 := 8) rfl rfl rfl (q_preF hN hK hP hD)) rfl rfl hl.1 rfl (lv_room (Nat.le_of_ble_eq_true rfl)) dX1_valueOf_80 ⟨Nat.le_of_ble_eq_true rfl, Nat.le_of_ble_eq_true rfl⟩) hD hS hA (fun r2 w1 H locs hw hP hD hS => ?_)
  obtain ⟨hq_, hw⟩ := hw; subst hw; subst hq_
  refine lv_istore (lv' := [(4, .int r2), (0, .ref (a 8)), (1, .int x1), (3, .int x3)]) hx hb dX1_valueOf_83 hl (by decide) rfl (fun ls hl => ?_)
  refine lv_aload_n hx hb dX1_valueOf_85 rfl (lv_at hl 1 rfl) ?_
  refine q_get (v := .int (s1.v 7)) C inX1_valueOf_X1 hK hP 8 rfl rfl 8 (by decide) rfl LX1_valueOf_63 rfl dX1_valueOf_86 ?_
  refine lv_if_eq (tgt := 96) hx hb dX1_valueOf_89 (by decide) (fun c3 => ?_) (fun c3 => ?_)
  · have hB := if_p hB c3
    refine lv_iload hx hb dX1_valueOf_96 (lv_at hl 0 rfl) ?_
    exact q_iret C hr hlocks hK hP hD hS (Nat.le_of_ble_eq_true rfl) (Nat.le_of_ble_eq_true rfl) dX1_valueOf_98 (by cases hB; exact ⟨rfl, rfl⟩)
  · have hB := if_n hB c3
    refine lv_iconst (v := 0) hx hb dX1_valueOf_92 (by decide) ?_
    refine lv_goto (tgt := 98) hx hb dX1_valueOf_93 (by decide) ?_
    exact q_iret C hr hlocks hK hP hD hS (Nat.le_of_ble_eq_true rfl) (Nat.le_of_ble_eq_true rfl) dX1_valueOf_98 (by cases hB; exact ⟨rfl, rfl⟩)
set_option maxHeartbeats 4000000 in
set_option maxRecDepth 100000 in
theorem bkX1_valueOf_19 {l : Launch} {dC : Nat → ClassId} {dI : Nat → Nat → Nat} {cB cI cJ cZ cS : ClassId} {a : Nat → Nat} {as : List Value} {r : Int32} {s' : KS} {k19 : KS → Int32 → Int32 → Int32 → Int32 → Option (Int32 × KS)} (hk19 : ∀ (s : KS) (x1 : Int32) (x2 : Int32) (x3 : Int32) (x4 : Int32), k19 s x1 x2 x3 x4 = some (r, s') → BlkI l yX1_valueOf wsX1_valueOf ({ frames := 2, cells := 0, slots := 0, locals := 50 }) cX1_valueOf 7 (some .int) (dC, dI) (tysA cB cI cJ cZ cS) as 19 (wK cB cI cJ cZ cS a s) [(0, .ref (a 8)), (1, .int x1), (2, .int x2), (3, .int x3), (4, .int x4)] [] (fun x u => x = r ∧ u = (wK cB cI cJ cZ cS a s'))) (s : KS) (x1 : Int32) (x2 : Int32) (x3 : Int32) (x4 : Int32) (hB : kX1_valueOf_19 k19 s x1 x2 x3 x4 = some (r, s')) : BlkI l yX1_valueOf wsX1_valueOf ({ frames := 2, cells := 0, slots := 0, locals := 50 }) cX1_valueOf 7 (some .int) (dC, dI) (tysA cB cI cJ cZ cS) as 19 (wK cB cI cJ cZ cS a s) [(0, .ref (a 8)), (1, .int x1), (2, .int x2), (3, .int x3), (4, .int x4)] [] (fun x u => x = r ∧ u = (wK cB cI cJ cZ cS a s')) := by
  intro p e s0 m below meth c A E H locs ls hP hD hS hl
  obtain ⟨C, hr, hlocks, hA, hK, hN⟩ := id E
  obtain ⟨hx, hb, hml, hown, hts⟩ := id C
  unfold kX1_valueOf_19 at hB
  refine lv_iload hx hb dX1_valueOf_19 (lv_at hl 4 rfl) ?_
  refine lv_iconst (v := 2) hx hb dX1_valueOf_21 (by decide) ?_
  refine lv_iadd hx hb dX1_valueOf_22 ?_
  refine lv_iload_n hx hb dX1_valueOf_23 rfl (lv_at hl 2 rfl) ?_
  refine lv_icmp_ge (tgt := 77) hx hb dX1_valueOf_24 (by decide) (fun c1 => ?_) (fun c1 => ?_)
  · have hB := if_p hB c1
    exact bkX1_valueOf_77 _ _ _ hB p e s0 m below meth c A E H locs ls hP hD hS (lv_sub hl [0, 1, 3] rfl)
  · have hB := if_n hB c1
    refine lv_aload_n hx hb dX1_valueOf_27 rfl (lv_at hl 0 rfl) ?_
    refine lv_iload_n hx hb dX1_valueOf_28 rfl (lv_at hl 1 rfl) ?_
    refine lv_iload hx hb dX1_valueOf_29 (lv_at hl 4 rfl) ?_
    obtain ⟨q_, s2, hc, hB⟩ := bindI_inv hB
    refine q_goiF (va_runV (As := [.int x1, .int x4]) (rest := []) C (ckX1_partValue hc _) (cwV 2 hts gX1_valueOf_X1_partValue rfl rfl rfl (by decide +kernel) ⟨Nat.le_of_ble_eq_true rfl, Nat.le_of_ble_eq_true rfl⟩) (q_preV hK hP (ci := 1) (q0 := 8) rfl rfl rfl (q_preF hN hK hP hD)) rfl rfl hl.1 rfl (lv_room (Nat.le_of_ble_eq_true rfl)) dX1_valueOf_31 ⟨Nat.le_of_ble_eq_true rfl, Nat.le_of_ble_eq_true rfl⟩) hD hS hA (fun r3 w1 H locs hw hP hD hS => ?_)
    obtain ⟨hq_, hw⟩ := hw; subst hw; subst hq_
    refine lv_istore (lv' := [(5, .int r3), (0, .ref (a 8)), (1, .int x1), (2, .int x2), (3, .int x3), (4, .int x4)]) hx hb dX1_valueOf_34 hl (by decide) rfl (fun ls hl => ?_)
    refine lv_aload_n hx hb dX1_valueOf_36 rfl (lv_at hl 1 rfl) ?_
    refine lv_iload_n hx hb dX1_valueOf_37 rfl (lv_at hl 2 rfl) ?_
    refine lv_iload hx hb dX1_valueOf_38 (lv_at hl 5 rfl) ?_
    refine lv_iconst (v := 1) hx hb dX1_valueOf_40 (by decide) ?_
    refine lv_iadd hx hb dX1_valueOf_41 ?_
    obtain ⟨q_, s4, hc, hB⟩ := bindI_inv hB
    refine q_goiF (va_runV (As := [.int x1, .int (x4 + 1)]) (rest := []) C (ckX1_partValue hc _) (cwV 2 hts gX1_valueOf_X1_partValue rfl rfl rfl (by decide +kernel) ⟨Nat.le_of_ble_eq_true rfl, Nat.le_of_ble_eq_true rfl⟩) (q_preV hK hP (ci := 1) (q0 := 8) rfl rfl rfl (q_preF hN hK hP hD)) rfl rfl hl.1 rfl (lv_room (Nat.le_of_ble_eq_true rfl)) dX1_valueOf_42 ⟨Nat.le_of_ble_eq_true rfl, Nat.le_of_ble_eq_true rfl⟩) hD hS hA (fun r5 w1 H locs hw hP hD hS => ?_)
    obtain ⟨hq_, hw⟩ := hw; subst hw; subst hq_
    refine lv_istore (lv' := [(6, .int r5), (5, .int r3), (0, .ref (a 8)), (1, .int x1), (2, .int x2), (3, .int x3), (4, .int x4)]) hx hb dX1_valueOf_45 hl (by decide) rfl (fun ls hl => ?_)
    refine lv_aload_n hx hb dX1_valueOf_47 rfl (lv_at hl 2 rfl) ?_
    refine q_get (v := .int (s4.v 7)) C inX1_valueOf_X1 hK hP 8 rfl rfl 8 (by decide) rfl LX1_valueOf_63 rfl dX1_valueOf_48 ?_
    refine lv_if_eq (tgt := 56) hx hb dX1_valueOf_51 (by decide) (fun c6 => ?_) (fun c6 => ?_)
    · have hB := if_p hB c6
      refine lv_iload hx hb dX1_valueOf_56 (lv_at hl 1 rfl) ?_
      refine lv_iload hx hb dX1_valueOf_58 (lv_at hl 0 rfl) ?_
      refine lv_icmp_ge (tgt := 71) hx hb dX1_valueOf_60 (by decide) (fun c7 => ?_) (fun c7 => ?_)
      · have hB := if_p hB c7
        refine lv_iinc (v := (x4 + 3)) (lv' := [(4, .int (x4 + 3)), (6, .int r5), (5, .int r3), (0, .ref (a 8)), (1, .int x1), (2, .int x2), (3, .int x3)]) hx hb dX1_valueOf_71 hl (k := 6) rfl (rfl) (by decide) rfl (fun ls hl => ?_)
        refine lv_goto (tgt := 19) hx hb dX1_valueOf_74 (by decide) ?_
        exact hk19 _ _ _ _ _ hB p e s0 m below meth c A E H locs ls hP hD hS (lv_sub hl [3, 4, 5, 6, 0] rfl)
      · have hB := if_n hB c7
        refine lv_iload hx hb dX1_valueOf_63 (lv_at hl 6 rfl) ?_
        refine lv_iconst (v := 2) hx hb dX1_valueOf_65 (by decide) ?_
        refine lv_iadd hx hb dX1_valueOf_66 ?_
        refine lv_istore_n (lv' := [(3, .int (x4 + 2)), (6, .int r5), (5, .int r3), (0, .ref (a 8)), (1, .int x1), (2, .int x2), (4, .int x4)]) hx hb dX1_valueOf_67 rfl hl (by decide) rfl (fun ls hl => ?_)
        refine lv_goto (tgt := 77) hx hb dX1_valueOf_68 (by decide) ?_
        exact bkX1_valueOf_77 _ _ _ hB p e s0 m below meth c A E H locs ls hP hD hS (lv_sub hl [3, 4, 0] rfl)
    · have hB := if_n hB c6
      refine lv_iconst (v := 0) hx hb dX1_valueOf_54 (by decide) ?_
      exact q_iret C hr hlocks hK hP hD hS (Nat.le_of_ble_eq_true rfl) (Nat.le_of_ble_eq_true rfl) dX1_valueOf_55 (by cases hB; exact ⟨rfl, rfl⟩)
theorem bkX1_valueOf_19L {l : Launch} {dC : Nat → ClassId} {dI : Nat → Nat → Nat} {cB cI cJ cZ cS : ClassId} {a : Nat → Nat} {as : List Value} {r : Int32} {s' : KS} : ∀ (n : Nat) (s : KS) (x1 : Int32) (x2 : Int32) (x3 : Int32) (x4 : Int32), kX1_valueOf_19L n s x1 x2 x3 x4 = some (r, s') → BlkI l yX1_valueOf wsX1_valueOf ({ frames := 2, cells := 0, slots := 0, locals := 50 }) cX1_valueOf 7 (some .int) (dC, dI) (tysA cB cI cJ cZ cS) as 19 (wK cB cI cJ cZ cS a s) [(0, .ref (a 8)), (1, .int x1), (2, .int x2), (3, .int x3), (4, .int x4)] [] (fun x u => x = r ∧ u = (wK cB cI cJ cZ cS a s')) := by
  intro n
  induction n with
  | zero => intro s x1 x2 x3 x4 hB; exact none_ne hB
  | succ n ih => intro s x1 x2 x3 x4 hB; exact bkX1_valueOf_19 ih _ _ _ _ _ hB
set_option maxHeartbeats 4000000 in
set_option maxRecDepth 100000 in
theorem bkX1_valueOf {l : Launch} {dC : Nat → ClassId} {dI : Nat → Nat → Nat} {cB cI cJ cZ cS : ClassId} {a : Nat → Nat} {as : List Value} {r : Int32} {s' : KS} (s : KS) (x1 : Int32) (hB : kX1_valueOf s x1 = some (r, s')) : BlkI l yX1_valueOf wsX1_valueOf ({ frames := 2, cells := 0, slots := 0, locals := 50 }) cX1_valueOf 7 (some .int) (dC, dI) (tysA cB cI cJ cZ cS) as 0 (wK cB cI cJ cZ cS a s) [(0, .ref (a 8)), (1, .int x1)] [] (fun x u => x = r ∧ u = (wK cB cI cJ cZ cS a s')) := by
  intro p e s0 m below meth c A E H locs ls hP hD hS hl
  obtain ⟨C, hr, hlocks, hA, hK, hN⟩ := id E
  obtain ⟨hx, hb, hml, hown, hts⟩ := id C
  unfold kX1_valueOf at hB
  refine lv_aload_n hx hb dX1_valueOf_0 rfl (lv_at hl 0 rfl) ?_
  refine lv_iconst (v := 0) hx hb dX1_valueOf_1 (by decide) ?_
  obtain ⟨s1, hs2, hB⟩ := letS_inv hB
  refine q_put (ty := .boolean) (w2 := (wK cB cI cJ cZ cS a s1)) tyX1 tyX1_ok nmX1 C inX1_valueOf_X1 hK hP hD hS 8 rfl rfl 8 (by decide) rfl LX1_valueOf_63 rfl (by decide +kernel) (by decide +kernel) rfl (Nat.le_of_ble_eq_true rfl) dX1_valueOf_2 (by subst hs2; rfl) (fun H locs hP hD hS => ?_)
  refine lv_aload_n hx hb dX1_valueOf_5 rfl (lv_at hl 0 rfl) ?_
  refine q_get (v := .ref (a 12)) C inX1_valueOf_X1 hK hP 8 rfl rfl 3 (by decide) rfl LX1_valueOf_25 rfl dX1_valueOf_6 ?_
  refine lv_iload_n hx hb dX1_valueOf_9 rfl (lv_at hl 1 rfl) ?_
  obtain ⟨g3, hB⟩ := guard_inv hB
  refine q_iald (x := ((s1.f 12) (Int32.toNatClampNeg x1))) C hK hP 12 1 rfl rfl (vpb_in g3) dX1_valueOf_10 rfl ?_
  refine lv_iconst (v := 1) hx hb dX1_valueOf_11 (by decide) ?_
  refine lv_isub hx hb dX1_valueOf_12 ?_
  refine lv_istore_n (lv' := [(2, .int (((s1.f 12) (Int32.toNatClampNeg x1)) - 1)), (0, .ref (a 8)), (1, .int x1)]) hx hb dX1_valueOf_13 rfl hl (by decide) rfl (fun ls hl => ?_)
  refine lv_iload_n hx hb dX1_valueOf_14 rfl (lv_at hl 0 rfl) ?_
  refine lv_istore_n (lv' := [(3, .int (((s1.f 12) (Int32.toNatClampNeg x1)) - 1)), (2, .int (((s1.f 12) (Int32.toNatClampNeg x1)) - 1)), (0, .ref (a 8)), (1, .int x1)]) hx hb dX1_valueOf_15 rfl hl (by decide) rfl (fun ls hl => ?_)
  refine lv_iconst (v := 0) hx hb dX1_valueOf_16 (by decide) ?_
  refine lv_istore (lv' := [(4, .int 0), (3, .int (((s1.f 12) (Int32.toNatClampNeg x1)) - 1)), (2, .int (((s1.f 12) (Int32.toNatClampNeg x1)) - 1)), (0, .ref (a 8)), (1, .int x1)]) hx hb dX1_valueOf_17 hl (by decide) rfl (fun ls hl => ?_)
  exact bkX1_valueOf_19L fu _ _ _ _ _ hB p e s0 m below meth c A E H locs ls hP hD hS (lv_sub hl [3, 4, 2, 1, 0] rfl)
theorem ckX1_valueOf {l : Launch} {dC : Nat → ClassId} {dI : Nat → Nat → Nat} {cB cI cJ cZ cS : ClassId} {a : Nat → Nat} {r : Int32} {s' : KS} {s : KS} {x1 : Int32} (hB : kX1_valueOf s x1 = some (r, s')) : CI l yX1_valueOf wsX1_valueOf ({ frames := 2, cells := 0, slots := 0, locals := 50 }) (dC, dI) (tysA cB cI cJ cZ cS) (wK cB cI cJ cZ cS a s) [.ref (a 8), .int x1] (fun x u => x = r ∧ u = (wK cB cI cJ cZ cS a s')) :=
  CI_of (cc := cX1_valueOf) (maxL := 7) (ret := (some .int)) (by decide) rfl (Nat.le_of_ble_eq_true rfl) (bkX1_valueOf _ _ hB)
theorem LX2_oddsOfAll_24 : Cond.fieldLink RX2 24 "GuessFerry$Outlook" "sound" "LGuessFerry$Sound;" ∈ wsX2_oddsOfAll := (List.mem_cons_of_mem _ (List.mem_append_left _ (List.mem_append_left _ (List.mem_append_left _ (List.mem_append_left _ (List.mem_append_left _ (List.mem_of_getElem? (i := 0) rfl)))))))
theorem inX2_oddsOfAll_X2 : ∀ w ∈ u_ws RX2 TX2 6, w ∈ wsX2_oddsOfAll := fun w h => (List.mem_cons_of_mem _ (List.mem_append_left _ (List.mem_append_left _ (List.mem_append_left _ (List.mem_append_right _ h)))))
theorem inX2_oddsOfAll_X5 : ∀ w ∈ u_ws RX5 TX5 10, w ∈ wsX2_oddsOfAll := fun w h => (List.mem_cons_of_mem _ (List.mem_append_left _ (List.mem_append_left _ (List.mem_append_right _ h))))
set_option maxHeartbeats 4000000 in
set_option maxRecDepth 100000 in
theorem bkX2_oddsOfAll_61 {l : Launch} {dC : Nat → ClassId} {dI : Nat → Nat → Nat} {cB cI cJ cZ cS : ClassId} {a b : Nat → Nat} {as : List Value} {r : Int32} {s' : JS} {k5 : JS → Int32 → Int32 → Int32 → Option (Int32 × JS)} (hk5 : ∀ (s : JS) (x2 : Int32) (x3 : Int32) (x4 : Int32), k5 s x2 x3 x4 = some (r, s') → BlkI l yX2_oddsOfAll wsX2_oddsOfAll ({ frames := 2, cells := 0, slots := 0, locals := 45 }) cX2_oddsOfAll 7 (some .int) (dC, dI) (tysA cB cI cJ cZ cS) as 5 (wJ cB cI cJ cZ cS a b s) [(0, .ref (a 36)), (1, .ref (b 0)), (2, .int x2), (3, .int x3), (4, .int x4)] [] (fun x u => x = r ∧ u = (wJ cB cI cJ cZ cS a b s'))) (s : JS) (x2 : Int32) (x3 : Int32) (x4 : Int32) (hB : kX2_oddsOfAll_61 k5 s x2 x3 x4 = some (r, s')) : BlkI l yX2_oddsOfAll wsX2_oddsOfAll ({ frames := 2, cells := 0, slots := 0, locals := 45 }) cX2_oddsOfAll 7 (some .int) (dC, dI) (tysA cB cI cJ cZ cS) as 61 (wJ cB cI cJ cZ cS a b s) [(0, .ref (a 36)), (1, .ref (b 0)), (2, .int x2), (3, .int x3), (4, .int x4)] [] (fun x u => x = r ∧ u = (wJ cB cI cJ cZ cS a b s')) := by
  intro p e s0 m below meth c A E H locs ls hP hD hS hl
  obtain ⟨C, hr, hlocks, hA, hK, hN⟩ := id E
  obtain ⟨hx, hb, hml, hown, hts⟩ := id C
  unfold kX2_oddsOfAll_61 at hB
  refine lv_iinc (v := (x4 + 1)) (lv' := [(4, .int (x4 + 1)), (0, .ref (a 36)), (1, .ref (b 0)), (2, .int x2), (3, .int x3)]) hx hb dX2_oddsOfAll_61 hl (k := 4) rfl (rfl) (by decide) rfl (fun ls hl => ?_)
  refine lv_goto (tgt := 5) hx hb dX2_oddsOfAll_64 (by decide) ?_
  exact hk5 _ _ _ _ hB p e s0 m below meth c A E H locs ls hP hD hS (lv_sub hl [1, 2, 3, 4, 0] rfl)
set_option maxHeartbeats 4000000 in
set_option maxRecDepth 100000 in
theorem bkX2_oddsOfAll_29 {l : Launch} {dC : Nat → ClassId} {dI : Nat → Nat → Nat} {cB cI cJ cZ cS : ClassId} {a b : Nat → Nat} {as : List Value} {r : Int32} {s' : JS} {k5 : JS → Int32 → Int32 → Int32 → Option (Int32 × JS)} {k29 : JS → Int32 → Int32 → Int32 → Int32 → Int32 → Option (Int32 × JS)} (hk5 : ∀ (s : JS) (x2 : Int32) (x3 : Int32) (x4 : Int32), k5 s x2 x3 x4 = some (r, s') → BlkI l yX2_oddsOfAll wsX2_oddsOfAll ({ frames := 2, cells := 0, slots := 0, locals := 45 }) cX2_oddsOfAll 7 (some .int) (dC, dI) (tysA cB cI cJ cZ cS) as 5 (wJ cB cI cJ cZ cS a b s) [(0, .ref (a 36)), (1, .ref (b 0)), (2, .int x2), (3, .int x3), (4, .int x4)] [] (fun x u => x = r ∧ u = (wJ cB cI cJ cZ cS a b s'))) (hk29 : ∀ (s : JS) (x2 : Int32) (x3 : Int32) (x4 : Int32) (x5 : Int32) (x6 : Int32), k29 s x2 x3 x4 x5 x6 = some (r, s') → BlkI l yX2_oddsOfAll wsX2_oddsOfAll ({ frames := 2, cells := 0, slots := 0, locals := 45 }) cX2_oddsOfAll 7 (some .int) (dC, dI) (tysA cB cI cJ cZ cS) as 29 (wJ cB cI cJ cZ cS a b s) [(0, .ref (a 36)), (1, .ref (b 0)), (2, .int x2), (3, .int x3), (4, .int x4), (5, .int x5), (6, .int x6)] [] (fun x u => x = r ∧ u = (wJ cB cI cJ cZ cS a b s'))) (s : JS) (x2 : Int32) (x3 : Int32) (x4 : Int32) (x5 : Int32) (x6 : Int32) (hB : kX2_oddsOfAll_29 k5 k29 s x2 x3 x4 x5 x6 = some (r, s')) : BlkI l yX2_oddsOfAll wsX2_oddsOfAll ({ frames := 2, cells := 0, slots := 0, locals := 45 }) cX2_oddsOfAll 7 (some .int) (dC, dI) (tysA cB cI cJ cZ cS) as 29 (wJ cB cI cJ cZ cS a b s) [(0, .ref (a 36)), (1, .ref (b 0)), (2, .int x2), (3, .int x3), (4, .int x4), (5, .int x5), (6, .int x6)] [] (fun x u => x = r ∧ u = (wJ cB cI cJ cZ cS a b s')) := by
  intro p e s0 m below meth c A E H locs ls hP hD hS hl
  obtain ⟨C, hr, hlocks, hA, hK, hN⟩ := id E
  obtain ⟨hx, hb, hml, hown, hts⟩ := id C
  unfold kX2_oddsOfAll_29 at hB
  refine lv_iload hx hb dX2_oddsOfAll_29 (lv_at hl 6 rfl) ?_
  refine lv_bipush (v := 6) hx hb dX2_oddsOfAll_31 (by decide) ?_
  refine lv_icmp_ge (tgt := 56) hx hb dX2_oddsOfAll_33 (by decide) (fun c1 => ?_) (fun c1 => ?_)
  · have hB := if_p hB c1
    refine lv_iload_n hx hb dX2_oddsOfAll_56 rfl (lv_at hl 3 rfl) ?_
    refine lv_iload hx hb dX2_oddsOfAll_57 (lv_at hl 5 rfl) ?_
    refine lv_imul hx hb dX2_oddsOfAll_59 ?_
    refine lv_istore_n (lv' := [(3, .int (x3 * x5)), (0, .ref (a 36)), (1, .ref (b 0)), (2, .int x2), (4, .int x4), (5, .int x5), (6, .int x6)]) hx hb dX2_oddsOfAll_60 rfl hl (by decide) rfl (fun ls hl => ?_)
    exact bkX2_oddsOfAll_61 (hk5) _ _ _ _ hB p e s0 m below meth c A E H locs ls hP hD hS (lv_sub hl [1, 2, 3, 0, 4] rfl)
  · have hB := if_n hB c1
    refine lv_iload hx hb dX2_oddsOfAll_36 (lv_at hl 5 rfl) ?_
    refine lv_aload_n hx hb dX2_oddsOfAll_38 rfl (lv_at hl 0 rfl) ?_
    refine lv_aload_n hx hb dX2_oddsOfAll_39 rfl (lv_at hl 1 rfl) ?_
    refine lv_iload hx hb dX2_oddsOfAll_40 (lv_at hl 4 rfl) ?_
    refine lv_iload hx hb dX2_oddsOfAll_42 (lv_at hl 6 rfl) ?_
    obtain ⟨q_, s2, hc, hB⟩ := bindI_inv hB
    refine q_goiF (va_runV (As := [.ref (b 0), .int x4, .int x6]) (rest := [.int x5]) C (ckX2_oddsIfMay hc _) (cwV 3 hts gX2_oddsOfAll_X2_oddsIfMay rfl rfl rfl (by decide +kernel) ⟨Nat.le_of_ble_eq_true rfl, Nat.le_of_ble_eq_true rfl⟩) (q_preV hK hP (ci := 2) (q0 := 42) rfl rfl rfl (q_preF hN hK hP hD)) rfl rfl hl.1 rfl (lv_room (Nat.le_of_ble_eq_true rfl)) dX2_oddsOfAll_44 ⟨Nat.le_of_ble_eq_true rfl, Nat.le_of_ble_eq_true rfl⟩) hD hS hA (fun r3 w1 H locs hw hP hD hS => ?_)
    obtain ⟨hq_, hw⟩ := hw; subst hw; subst hq_
    refine lv_iadd hx hb dX2_oddsOfAll_47 ?_
    refine lv_istore (lv' := [(5, .int (x5 + r3)), (0, .ref (a 36)), (1, .ref (b 0)), (2, .int x2), (3, .int x3), (4, .int x4), (6, .int x6)]) hx hb dX2_oddsOfAll_48 hl (by decide) rfl (fun ls hl => ?_)
    refine lv_iinc (v := (x6 + 1)) (lv' := [(6, .int (x6 + 1)), (5, .int (x5 + r3)), (0, .ref (a 36)), (1, .ref (b 0)), (2, .int x2), (3, .int x3), (4, .int x4)]) hx hb dX2_oddsOfAll_50 hl (k := 6) rfl (rfl) (by decide) rfl (fun ls hl => ?_)
    refine lv_goto (tgt := 29) hx hb dX2_oddsOfAll_53 (by decide) ?_
    exact hk29 _ _ _ _ _ _ hB p e s0 m below meth c A E H locs ls hP hD hS (lv_sub hl [2, 3, 4, 5, 6, 1, 0] rfl)
theorem bkX2_oddsOfAll_29L {l : Launch} {dC : Nat → ClassId} {dI : Nat → Nat → Nat} {cB cI cJ cZ cS : ClassId} {a b : Nat → Nat} {as : List Value} {r : Int32} {s' : JS} {k5 : JS → Int32 → Int32 → Int32 → Option (Int32 × JS)} (hk5 : ∀ (s : JS) (x2 : Int32) (x3 : Int32) (x4 : Int32), k5 s x2 x3 x4 = some (r, s') → BlkI l yX2_oddsOfAll wsX2_oddsOfAll ({ frames := 2, cells := 0, slots := 0, locals := 45 }) cX2_oddsOfAll 7 (some .int) (dC, dI) (tysA cB cI cJ cZ cS) as 5 (wJ cB cI cJ cZ cS a b s) [(0, .ref (a 36)), (1, .ref (b 0)), (2, .int x2), (3, .int x3), (4, .int x4)] [] (fun x u => x = r ∧ u = (wJ cB cI cJ cZ cS a b s'))) : ∀ (n : Nat) (s : JS) (x2 : Int32) (x3 : Int32) (x4 : Int32) (x5 : Int32) (x6 : Int32), kX2_oddsOfAll_29L k5 n s x2 x3 x4 x5 x6 = some (r, s') → BlkI l yX2_oddsOfAll wsX2_oddsOfAll ({ frames := 2, cells := 0, slots := 0, locals := 45 }) cX2_oddsOfAll 7 (some .int) (dC, dI) (tysA cB cI cJ cZ cS) as 29 (wJ cB cI cJ cZ cS a b s) [(0, .ref (a 36)), (1, .ref (b 0)), (2, .int x2), (3, .int x3), (4, .int x4), (5, .int x5), (6, .int x6)] [] (fun x u => x = r ∧ u = (wJ cB cI cJ cZ cS a b s')) := by
  intro n
  induction n with
  | zero => intro s x2 x3 x4 x5 x6 hB; exact none_ne hB
  | succ n ih => intro s x2 x3 x4 x5 x6 hB; exact bkX2_oddsOfAll_29 hk5 ih _ _ _ _ _ _ hB
set_option maxHeartbeats 4000000 in
set_option maxRecDepth 100000 in
theorem bkX2_oddsOfAll_5 {l : Launch} {dC : Nat → ClassId} {dI : Nat → Nat → Nat} {cB cI cJ cZ cS : ClassId} {a b : Nat → Nat} {as : List Value} {r : Int32} {s' : JS} {k5 : JS → Int32 → Int32 → Int32 → Option (Int32 × JS)} (hk5 : ∀ (s : JS) (x2 : Int32) (x3 : Int32) (x4 : Int32), k5 s x2 x3 x4 = some (r, s') → BlkI l yX2_oddsOfAll wsX2_oddsOfAll ({ frames := 2, cells := 0, slots := 0, locals := 45 }) cX2_oddsOfAll 7 (some .int) (dC, dI) (tysA cB cI cJ cZ cS) as 5 (wJ cB cI cJ cZ cS a b s) [(0, .ref (a 36)), (1, .ref (b 0)), (2, .int x2), (3, .int x3), (4, .int x4)] [] (fun x u => x = r ∧ u = (wJ cB cI cJ cZ cS a b s'))) (s : JS) (x2 : Int32) (x3 : Int32) (x4 : Int32) (hB : kX2_oddsOfAll_5 k5 s x2 x3 x4 = some (r, s')) : BlkI l yX2_oddsOfAll wsX2_oddsOfAll ({ frames := 2, cells := 0, slots := 0, locals := 45 }) cX2_oddsOfAll 7 (some .int) (dC, dI) (tysA cB cI cJ cZ cS) as 5 (wJ cB cI cJ cZ cS a b s) [(0, .ref (a 36)), (1, .ref (b 0)), (2, .int x2), (3, .int x3), (4, .int x4)] [] (fun x u => x = r ∧ u = (wJ cB cI cJ cZ cS a b s')) := by
  intro p e s0 m below meth c A E H locs ls hP hD hS hl
  obtain ⟨C, hr, hlocks, hA, hK, hN⟩ := id E
  obtain ⟨hx, hb, hml, hown, hts⟩ := id C
  unfold kX2_oddsOfAll_5 at hB
  refine lv_iload hx hb dX2_oddsOfAll_5 (lv_at hl 4 rfl) ?_
  refine lv_aload_n hx hb dX2_oddsOfAll_7 rfl (lv_at hl 0 rfl) ?_
  refine q_get (v := .ref (a 2)) C inX2_oddsOfAll_X2 hK hP 42 rfl rfl 0 (by decide) rfl LX2_oddsOfAll_24 rfl dX2_oddsOfAll_8 ?_
  refine q_getN (v := .int (s.k.v 1)) C hN inX2_oddsOfAll_X5 hK hP 8 rfl rfl 6 (by decide) rfl nwF_X2_44 rfl dX2_oddsOfAll_11 ?_
  refine lv_icmp_ge (tgt := 67) hx hb dX2_oddsOfAll_14 (by decide) (fun c1 => ?_) (fun c1 => ?_)
  · have hB := if_p hB c1
    refine lv_iload_n hx hb dX2_oddsOfAll_67 rfl (lv_at hl 3 rfl) ?_
    exact q_iret C hr hlocks hK hP hD hS (Nat.le_of_ble_eq_true rfl) (Nat.le_of_ble_eq_true rfl) dX2_oddsOfAll_68 (by cases hB; exact ⟨rfl, rfl⟩)
  · have hB := if_n hB c1
    refine lv_iload hx hb dX2_oddsOfAll_17 (lv_at hl 4 rfl) ?_
    refine lv_iload_n hx hb dX2_oddsOfAll_19 rfl (lv_at hl 2 rfl) ?_
    refine lv_icmp_eq (tgt := 61) hx hb dX2_oddsOfAll_20 (by decide) (fun c2 => ?_) (fun c2 => ?_)
    · have hB := if_p hB c2
      exact bkX2_oddsOfAll_61 (hk5) _ _ _ _ hB p e s0 m below meth c A E H locs ls hP hD hS (lv_sub hl [0, 1, 2, 3, 4] rfl)
    · have hB := if_n hB c2
      refine lv_iconst (v := 0) hx hb dX2_oddsOfAll_23 (by decide) ?_
      refine lv_istore (lv' := [(5, .int 0), (0, .ref (a 36)), (1, .ref (b 0)), (2, .int x2), (3, .int x3), (4, .int x4)]) hx hb dX2_oddsOfAll_24 hl (by decide) rfl (fun ls hl => ?_)
      refine lv_iconst (v := 0) hx hb dX2_oddsOfAll_26 (by decide) ?_
      refine lv_istore (lv' := [(6, .int 0), (5, .int 0), (0, .ref (a 36)), (1, .ref (b 0)), (2, .int x2), (3, .int x3), (4, .int x4)]) hx hb dX2_oddsOfAll_27 hl (by decide) rfl (fun ls hl => ?_)
      exact bkX2_oddsOfAll_29L (hk5) fu _ _ _ _ _ _ hB p e s0 m below meth c A E H locs ls hP hD hS (lv_sub hl [2, 3, 4, 5, 6, 1, 0] rfl)
theorem bkX2_oddsOfAll_5L {l : Launch} {dC : Nat → ClassId} {dI : Nat → Nat → Nat} {cB cI cJ cZ cS : ClassId} {a b : Nat → Nat} {as : List Value} {r : Int32} {s' : JS} : ∀ (n : Nat) (s : JS) (x2 : Int32) (x3 : Int32) (x4 : Int32), kX2_oddsOfAll_5L n s x2 x3 x4 = some (r, s') → BlkI l yX2_oddsOfAll wsX2_oddsOfAll ({ frames := 2, cells := 0, slots := 0, locals := 45 }) cX2_oddsOfAll 7 (some .int) (dC, dI) (tysA cB cI cJ cZ cS) as 5 (wJ cB cI cJ cZ cS a b s) [(0, .ref (a 36)), (1, .ref (b 0)), (2, .int x2), (3, .int x3), (4, .int x4)] [] (fun x u => x = r ∧ u = (wJ cB cI cJ cZ cS a b s')) := by
  intro n
  induction n with
  | zero => intro s x2 x3 x4 hB; exact none_ne hB
  | succ n ih => intro s x2 x3 x4 hB; exact bkX2_oddsOfAll_5 ih _ _ _ _ hB
set_option maxHeartbeats 4000000 in
set_option maxRecDepth 100000 in
theorem bkX2_oddsOfAll {l : Launch} {dC : Nat → ClassId} {dI : Nat → Nat → Nat} {cB cI cJ cZ cS : ClassId} {a b : Nat → Nat} {as : List Value} {r : Int32} {s' : JS} (s : JS) (x2 : Int32) (hB : kX2_oddsOfAll s x2 = some (r, s')) : BlkI l yX2_oddsOfAll wsX2_oddsOfAll ({ frames := 2, cells := 0, slots := 0, locals := 45 }) cX2_oddsOfAll 7 (some .int) (dC, dI) (tysA cB cI cJ cZ cS) as 0 (wJ cB cI cJ cZ cS a b s) [(0, .ref (a 36)), (1, .ref (b 0)), (2, .int x2)] [] (fun x u => x = r ∧ u = (wJ cB cI cJ cZ cS a b s')) := by
  intro p e s0 m below meth c A E H locs ls hP hD hS hl
  obtain ⟨C, hr, hlocks, hA, hK, hN⟩ := id E
  obtain ⟨hx, hb, hml, hown, hts⟩ := id C
  unfold kX2_oddsOfAll at hB
  refine lv_iconst (v := 1) hx hb dX2_oddsOfAll_0 (by decide) ?_
  refine lv_istore_n (lv' := [(3, .int 1), (0, .ref (a 36)), (1, .ref (b 0)), (2, .int x2)]) hx hb dX2_oddsOfAll_1 rfl hl (by decide) rfl (fun ls hl => ?_)
  refine lv_iconst (v := 0) hx hb dX2_oddsOfAll_2 (by decide) ?_
  refine lv_istore (lv' := [(4, .int 0), (3, .int 1), (0, .ref (a 36)), (1, .ref (b 0)), (2, .int x2)]) hx hb dX2_oddsOfAll_3 hl (by decide) rfl (fun ls hl => ?_)
  exact bkX2_oddsOfAll_5L fu _ _ _ _ hB p e s0 m below meth c A E H locs ls hP hD hS (lv_sub hl [2, 3, 4, 1, 0] rfl)
theorem ckX2_oddsOfAll {l : Launch} {dC : Nat → ClassId} {dI : Nat → Nat → Nat} {cB cI cJ cZ cS : ClassId} {a b : Nat → Nat} {r : Int32} {s' : JS} {s : JS} {x2 : Int32} (hB : kX2_oddsOfAll s x2 = some (r, s')) : CI l yX2_oddsOfAll wsX2_oddsOfAll ({ frames := 2, cells := 0, slots := 0, locals := 45 }) (dC, dI) (tysA cB cI cJ cZ cS) (wJ cB cI cJ cZ cS a b s) [.ref (a 36), .ref (b 0), .int x2] (fun x u => x = r ∧ u = (wJ cB cI cJ cZ cS a b s')) :=
  CI_of (cc := cX2_oddsOfAll) (maxL := 7) (ret := (some .int)) (by decide) rfl (Nat.le_of_ble_eq_true rfl) (bkX2_oddsOfAll _ _ hB)
theorem LX5_clear_30 : Cond.fieldLink RX5 30 "GuessFerry$Sound" "laws" "LGuessFerry$Laws;" ∈ wsX5_clear := (List.mem_cons_of_mem _ (List.mem_append_left _ (List.mem_append_left _ (List.mem_append_left _ (List.mem_of_getElem? (i := 4) rfl)))))
theorem LX5_clear_37 : Cond.fieldLink RX5 37 "GuessFerry$Sound" "waves" "I" ∈ wsX5_clear := (List.mem_cons_of_mem _ (List.mem_append_left _ (List.mem_append_left _ (List.mem_append_left _ (List.mem_of_getElem? (i := 0) rfl)))))
theorem LX5_clear_41 : Cond.fieldLink RX5 41 "GuessFerry$Sound" "parties" "I" ∈ wsX5_clear := (List.mem_cons_of_mem _ (List.mem_append_left _ (List.mem_append_left _ (List.mem_append_left _ (List.mem_of_getElem? (i := 1) rfl)))))
theorem LX5_clear_44 : Cond.fieldLink RX5 44 "GuessFerry$Sound" "guesses" "I" ∈ wsX5_clear := (List.mem_cons_of_mem _ (List.mem_append_left _ (List.mem_append_left _ (List.mem_append_left _ (List.mem_of_getElem? (i := 2) rfl)))))
theorem LX5_clear_47 : Cond.fieldLink RX5 47 "GuessFerry$Sound" "seed" "I" ∈ wsX5_clear := (List.mem_cons_of_mem _ (List.mem_append_left _ (List.mem_append_left _ (List.mem_append_left _ (List.mem_of_getElem? (i := 3) rfl)))))
theorem LX5_clear_E_X1_clear : Cond.selects RX1 yX1_clear yX1_clear ∈ wsX5_clear := (List.mem_cons_of_mem _ (List.mem_append_left _ (List.mem_append_left _ (List.mem_append_left _ (List.mem_of_getElem? (i := 7) rfl)))))
theorem LX5_clear_I_X1 : Cond.initialized RX1 ∈ wsX5_clear := (List.mem_cons_of_mem _ (List.mem_append_left _ (List.mem_append_left _ (List.mem_append_left _ (List.mem_of_getElem? (i := 6) rfl)))))
theorem LX5_clear_N_X1_clear : Cond.instanceMethod yX1_clear ∈ wsX5_clear := (List.mem_cons_of_mem _ (List.mem_append_left _ (List.mem_append_left _ (List.mem_append_left _ (List.mem_of_getElem? (i := 5) rfl)))))
theorem inX5_clear_X5 : ∀ w ∈ u_ws RX5 TX5 10, w ∈ wsX5_clear := fun w h => (List.mem_cons_of_mem _ (List.mem_append_left _ (List.mem_append_right _ h)))
set_option maxHeartbeats 4000000 in
set_option maxRecDepth 100000 in
theorem bkX5_clear {l : Launch} {dC : Nat → ClassId} {dI : Nat → Nat → Nat} {cB cI cJ cZ cS : ClassId} {a : Nat → Nat} {as : List Value} {s' : KS} (s : KS) (hB : kX5_clear s = some s') : BlkV l yX5_clear wsX5_clear ({ frames := 3, cells := 0, slots := 0, locals := 62 }) cX5_clear 1 none (dC, dI) (tysA cB cI cJ cZ cS) as 0 (wK cB cI cJ cZ cS a s) [(0, .ref (a 15))] [] (fun u => u = (wK cB cI cJ cZ cS a s')) := by
  intro p e s0 m below meth c A E H locs ls hP hD hS hl
  obtain ⟨C, hr, hlocks, hA, hK, hN⟩ := id E
  obtain ⟨hx, hb, hml, hown, hts⟩ := id C
  unfold kX5_clear at hB
  refine lv_aload_n hx hb dX5_clear_0 rfl (lv_at hl 0 rfl) ?_
  refine lv_iconst (v := 0) hx hb dX5_clear_1 (by decide) ?_
  obtain ⟨s1, hs2, hB⟩ := letS_inv hB
  refine q_put (ty := .int) (w2 := (wK cB cI cJ cZ cS a s1)) tyX5 tyX5_ok nmX5 C inX5_clear_X5 hK hP hD hS 15 rfl rfl 6 (by decide) rfl LX5_clear_37 rfl (by decide +kernel) (rfl) rfl (Nat.le_of_ble_eq_true rfl) dX5_clear_2 (by subst hs2; rfl) (fun H locs hP hD hS => ?_)
  refine lv_aload_n hx hb dX5_clear_5 rfl (lv_at hl 0 rfl) ?_
  refine lv_iconst (v := 0) hx hb dX5_clear_6 (by decide) ?_
  obtain ⟨s3, hs4, hB⟩ := letS_inv hB
  refine q_put (ty := .int) (w2 := (wK cB cI cJ cZ cS a s3)) tyX5 tyX5_ok nmX5 C inX5_clear_X5 hK hP hD hS 15 rfl rfl 7 (by decide) rfl LX5_clear_41 rfl (by decide +kernel) (rfl) rfl (Nat.le_of_ble_eq_true rfl) dX5_clear_7 (by subst hs4; rfl) (fun H locs hP hD hS => ?_)
  refine lv_aload_n hx hb dX5_clear_10 rfl (lv_at hl 0 rfl) ?_
  refine lv_iconst (v := 1) hx hb dX5_clear_11 (by decide) ?_
  obtain ⟨s5, hs6, hB⟩ := letS_inv hB
  refine q_put (ty := .int) (w2 := (wK cB cI cJ cZ cS a s5)) tyX5 tyX5_ok nmX5 C inX5_clear_X5 hK hP hD hS 15 rfl rfl 8 (by decide) rfl LX5_clear_44 rfl (by decide +kernel) (rfl) rfl (Nat.le_of_ble_eq_true rfl) dX5_clear_12 (by subst hs6; rfl) (fun H locs hP hD hS => ?_)
  refine lv_aload_n hx hb dX5_clear_15 rfl (lv_at hl 0 rfl) ?_
  refine lv_iconst (v := 0) hx hb dX5_clear_16 (by decide) ?_
  obtain ⟨s7, hs8, hB⟩ := letS_inv hB
  refine q_put (ty := .int) (w2 := (wK cB cI cJ cZ cS a s7)) tyX5 tyX5_ok nmX5 C inX5_clear_X5 hK hP hD hS 15 rfl rfl 9 (by decide) rfl LX5_clear_47 rfl (by decide +kernel) (rfl) rfl (Nat.le_of_ble_eq_true rfl) dX5_clear_17 (by subst hs8; rfl) (fun H locs hP hD hS => ?_)
  refine lv_aload_n hx hb dX5_clear_20 rfl (lv_at hl 0 rfl) ?_
  refine q_get (v := .ref (a 21)) C inX5_clear_X5 hK hP 15 rfl rfl 5 (by decide) rfl LX5_clear_30 rfl dX5_clear_21 ?_
  obtain ⟨s9, hc, hB⟩ := bindP_inv hB
  refine q_govF (va_runVN (As := []) (rest := []) C (ckX1_clear hc _) ⟨va_cnB 0 hts gX5_clear_X1_clear_n50 rfl rfl rfl (hN _ nwM_X5_50 rfl) (hts _ LX5_clear_I_X1) (by decide +kernel) ⟨Nat.le_of_ble_eq_true rfl, Nat.le_of_ble_eq_true rfl⟩, hts _ LX5_clear_N_X1_clear, hts _ LX5_clear_E_X1_clear⟩ (q_preV hK hP (ci := 1) (q0 := 21) rfl rfl rfl (q_preF hN hK hP hD)) rfl rfl hl.1 rfl (lv_room (Nat.le_of_ble_eq_true rfl)) dX5_clear_24 ⟨Nat.le_of_ble_eq_true rfl, Nat.le_of_ble_eq_true rfl⟩) hD hS hA (fun w1 H locs hw hP hD hS => ?_)
  subst hw
  exact q_vret C hr hlocks hK hP hD hS (Nat.le_of_ble_eq_true rfl) (Nat.le_of_ble_eq_true rfl) dX5_clear_27 (by cases hB; rfl)
theorem ckX5_clear {l : Launch} {dC : Nat → ClassId} {dI : Nat → Nat → Nat} {cB cI cJ cZ cS : ClassId} {a : Nat → Nat} {s' : KS} {s : KS} (hB : kX5_clear s = some s') : CV l yX5_clear wsX5_clear ({ frames := 3, cells := 0, slots := 0, locals := 62 }) (dC, dI) (tysA cB cI cJ cZ cS) (wK cB cI cJ cZ cS a s) [.ref (a 15)] (fun u => u = (wK cB cI cJ cZ cS a s')) :=
  CV_of (cc := cX5_clear) (maxL := 1) (ret := none) (by decide) rfl (Nat.le_of_ble_eq_true rfl) (bkX5_clear _ hB)
theorem LX5_thingThere_15 : Cond.fieldLink RX5 15 "GuessFerry$Sound" "oddsSums" "[I" ∈ wsX5_thingThere := (List.mem_cons_of_mem _ (List.mem_append_left _ (List.mem_append_left _ (List.mem_of_getElem? (i := 0) rfl))))
theorem LX5_thingThere_I_X10 : Cond.initialized RX10 ∈ wsX5_thingThere := (List.mem_cons_of_mem _ (List.mem_append_left _ (List.mem_append_left _ (List.mem_of_getElem? (i := 2) rfl))))
theorem LX5_thingThere_S_X10_lot : Cond.static yX10_lot ∈ wsX5_thingThere := (List.mem_cons_of_mem _ (List.mem_append_left _ (List.mem_append_left _ (List.mem_of_getElem? (i := 1) rfl))))
theorem inX5_thingThere_X5 : ∀ w ∈ u_ws RX5 TX5 10, w ∈ wsX5_thingThere := fun w h => (List.mem_cons_of_mem _ (List.mem_append_right _ h))
set_option maxHeartbeats 4000000 in
set_option maxRecDepth 100000 in
theorem bkX5_thingThere_24 {l : Launch} {dC : Nat → ClassId} {dI : Nat → Nat → Nat} {cB cI cJ cZ cS : ClassId} {a : Nat → Nat} {as : List Value} {r : Int32} {s' : KS} {k24 : KS → Int32 → Int32 → Int32 → Int32 → Option (Int32 × KS)} (hk24 : ∀ (s : KS) (x1 : Int32) (x4 : Int32) (x5 : Int32) (x6 : Int32), k24 s x1 x4 x5 x6 = some (r, s') → BlkI l yX5_thingThere wsX5_thingThere ({ frames := 2, cells := 0, slots := 0, locals := 45 }) cX5_thingThere 7 (some .int) (dC, dI) (tysA cB cI cJ cZ cS) as 24 (wK cB cI cJ cZ cS a s) [(0, .ref (a 2)), (1, .int x1), (4, .int x4), (5, .int x5), (6, .int x6)] [] (fun x u => x = r ∧ u = (wK cB cI cJ cZ cS a s'))) (s : KS) (x1 : Int32) (x4 : Int32) (x5 : Int32) (x6 : Int32) (hB : kX5_thingThere_24 k24 s x1 x4 x5 x6 = some (r, s')) : BlkI l yX5_thingThere wsX5_thingThere ({ frames := 2, cells := 0, slots := 0, locals := 45 }) cX5_thingThere 7 (some .int) (dC, dI) (tysA cB cI cJ cZ cS) as 24 (wK cB cI cJ cZ cS a s) [(0, .ref (a 2)), (1, .int x1), (4, .int x4), (5, .int x5), (6, .int x6)] [] (fun x u => x = r ∧ u = (wK cB cI cJ cZ cS a s')) := by
  intro p e s0 m below meth c A E H locs ls hP hD hS hl
  obtain ⟨C, hr, hlocks, hA, hK, hN⟩ := id E
  obtain ⟨hx, hb, hml, hown, hts⟩ := id C
  unfold kX5_thingThere_24 at hB
  refine lv_iload hx hb dX5_thingThere_24 (lv_at hl 4 rfl) ?_
  refine lv_bipush (v := 6) hx hb dX5_thingThere_26 (by decide) ?_
  refine lv_icmp_ge (tgt := 59) hx hb dX5_thingThere_28 (by decide) (fun c1 => ?_) (fun c1 => ?_)
  · have hB := if_p hB c1
    refine lv_iconst (v := 5) hx hb dX5_thingThere_59 (by decide) ?_
    exact q_iret C hr hlocks hK hP hD hS (Nat.le_of_ble_eq_true rfl) (Nat.le_of_ble_eq_true rfl) dX5_thingThere_60 (by cases hB; exact ⟨rfl, rfl⟩)
  · have hB := if_n hB c1
    refine lv_iload hx hb dX5_thingThere_31 (lv_at hl 3 rfl) ?_
    refine lv_aload_n hx hb dX5_thingThere_33 rfl (lv_at hl 0 rfl) ?_
    refine lv_iload_n hx hb dX5_thingThere_34 rfl (lv_at hl 1 rfl) ?_
    refine lv_iload hx hb dX5_thingThere_35 (lv_at hl 4 rfl) ?_
    obtain ⟨q_, s2, hc, hB⟩ := bindI_inv hB
    refine q_goiF (va_runV (As := [.int x1, .int x6]) (rest := [.int x5]) C (ckX5_oddsAt hc _) (cwV 2 hts gX5_thingThere_X5_oddsAt rfl rfl rfl (by decide +kernel) ⟨Nat.le_of_ble_eq_true rfl, Nat.le_of_ble_eq_true rfl⟩) (q_preV hK hP (ci := 5) (q0 := 2) rfl rfl rfl (q_preF hN hK hP hD)) rfl rfl hl.1 rfl (lv_room (Nat.le_of_ble_eq_true rfl)) dX5_thingThere_37 ⟨Nat.le_of_ble_eq_true rfl, Nat.le_of_ble_eq_true rfl⟩) hD hS hA (fun r3 w1 H locs hw hP hD hS => ?_)
    obtain ⟨hq_, hw⟩ := hw; subst hw; subst hq_
    refine lv_iadd hx hb dX5_thingThere_40 ?_
    refine lv_istore (lv' := [(5, .int (x5 + r3)), (0, .ref (a 2)), (1, .int x1), (4, .int x4), (6, .int x6)]) hx hb dX5_thingThere_41 hl (by decide) rfl (fun ls hl => ?_)
    refine lv_iload hx hb dX5_thingThere_43 (lv_at hl 0 rfl) ?_
    refine lv_iload hx hb dX5_thingThere_45 (lv_at hl 3 rfl) ?_
    refine lv_icmp_le (tgt := 53) hx hb dX5_thingThere_47 (by decide) (fun c4 => ?_) (fun c4 => ?_)
    · have hB := if_p hB c4
      refine lv_iinc (v := (x6 + 1)) (lv' := [(6, .int (x6 + 1)), (5, .int (x5 + r3)), (0, .ref (a 2)), (1, .int x1), (4, .int x4)]) hx hb dX5_thingThere_53 hl (k := 4) rfl (rfl) (by decide) rfl (fun ls hl => ?_)
      refine lv_goto (tgt := 24) hx hb dX5_thingThere_56 (by decide) ?_
      exact hk24 _ _ _ _ _ hB p e s0 m below meth c A E H locs ls hP hD hS (lv_sub hl [2, 3, 4, 1, 0] rfl)
    · have hB := if_n hB c4
      refine lv_iload hx hb dX5_thingThere_50 (lv_at hl 4 rfl) ?_
      exact q_iret C hr hlocks hK hP hD hS (Nat.le_of_ble_eq_true rfl) (Nat.le_of_ble_eq_true rfl) dX5_thingThere_52 (by cases hB; exact ⟨rfl, rfl⟩)
theorem bkX5_thingThere_24L {l : Launch} {dC : Nat → ClassId} {dI : Nat → Nat → Nat} {cB cI cJ cZ cS : ClassId} {a : Nat → Nat} {as : List Value} {r : Int32} {s' : KS} : ∀ (n : Nat) (s : KS) (x1 : Int32) (x4 : Int32) (x5 : Int32) (x6 : Int32), kX5_thingThere_24L n s x1 x4 x5 x6 = some (r, s') → BlkI l yX5_thingThere wsX5_thingThere ({ frames := 2, cells := 0, slots := 0, locals := 45 }) cX5_thingThere 7 (some .int) (dC, dI) (tysA cB cI cJ cZ cS) as 24 (wK cB cI cJ cZ cS a s) [(0, .ref (a 2)), (1, .int x1), (4, .int x4), (5, .int x5), (6, .int x6)] [] (fun x u => x = r ∧ u = (wK cB cI cJ cZ cS a s')) := by
  intro n
  induction n with
  | zero => intro s x1 x4 x5 x6 hB; exact none_ne hB
  | succ n ih => intro s x1 x4 x5 x6 hB; exact bkX5_thingThere_24 ih _ _ _ _ _ hB
set_option maxHeartbeats 4000000 in
set_option maxRecDepth 100000 in
theorem bkX5_thingThere {l : Launch} {dC : Nat → ClassId} {dI : Nat → Nat → Nat} {cB cI cJ cZ cS : ClassId} {a : Nat → Nat} {as : List Value} {r : Int32} {s' : KS} (s : KS) (x1 : Int32) (x2 : Int32) (x3 : Int32) (hB : kX5_thingThere s x1 x2 x3 = some (r, s')) : BlkI l yX5_thingThere wsX5_thingThere ({ frames := 2, cells := 0, slots := 0, locals := 45 }) cX5_thingThere 7 (some .int) (dC, dI) (tysA cB cI cJ cZ cS) as 0 (wK cB cI cJ cZ cS a s) [(0, .ref (a 2)), (1, .int x1), (2, .int x2), (3, .int x3)] [] (fun x u => x = r ∧ u = (wK cB cI cJ cZ cS a s')) := by
  intro p e s0 m below meth c A E H locs ls hP hD hS hl
  obtain ⟨C, hr, hlocks, hA, hK, hN⟩ := id E
  obtain ⟨hx, hb, hml, hown, hts⟩ := id C
  unfold kX5_thingThere at hB
  refine lv_aload_n hx hb dX5_thingThere_0 rfl (lv_at hl 0 rfl) ?_
  refine q_get (v := .ref (a 4)) C inX5_thingThere_X5 hK hP 2 rfl rfl 1 (by decide) rfl LX5_thingThere_15 rfl dX5_thingThere_1 ?_
  refine lv_iload_n hx hb dX5_thingThere_4 rfl (lv_at hl 1 rfl) ?_
  obtain ⟨g1, hB⟩ := guard_inv hB
  refine q_iald (x := ((s.f 4) (Int32.toNatClampNeg x1))) C hK hP 4 1 rfl rfl (vpb_in g1) dX5_thingThere_5 rfl ?_
  refine lv_iload_n hx hb dX5_thingThere_6 rfl (lv_at hl 3 rfl) ?_
  refine lv_bipush (v := 8) hx hb dX5_thingThere_7 (by decide) ?_
  refine lv_iload_n hx hb dX5_thingThere_9 rfl (lv_at hl 2 rfl) ?_
  refine lv_imul hx hb dX5_thingThere_10 ?_
  refine lv_iload_n hx hb dX5_thingThere_11 rfl (lv_at hl 1 rfl) ?_
  refine lv_iadd hx hb dX5_thingThere_12 ?_
  obtain ⟨q_, hc, hB⟩ := bindP_inv hB
  refine q_goi0 (va_runSN (As := [.int ((s.f 4) (Int32.toNatClampNeg x1)), .int x3, .int ((8 * x2) + x1)]) (rest := []) C (ckX10_lot hc _) ⟨va_cnB 3 hts gX5_thingThere_X10_lot_n65 rfl rfl rfl (hN _ nwM_X5_65 rfl) (hts _ LX5_thingThere_I_X10) (by decide +kernel) ⟨Nat.le_of_ble_eq_true rfl, Nat.le_of_ble_eq_true rfl⟩, hts _ LX5_thingThere_S_X10_lot, trivial⟩ (q_pre0 hN hK) rfl rfl hl.1 rfl (lv_room (Nat.le_of_ble_eq_true rfl)) dX5_thingThere_13 ⟨Nat.le_of_ble_eq_true rfl, Nat.le_of_ble_eq_true rfl⟩) hP hD hS hA (fun r2 w1 H locs hw hP hS => ?_)
  subst hw
  refine lv_istore (lv' := [(4, .int r2), (0, .ref (a 2)), (1, .int x1), (2, .int x2), (3, .int x3)]) hx hb dX5_thingThere_16 hl (by decide) rfl (fun ls hl => ?_)
  refine lv_iconst (v := 0) hx hb dX5_thingThere_18 (by decide) ?_
  refine lv_istore (lv' := [(5, .int 0), (4, .int r2), (0, .ref (a 2)), (1, .int x1), (2, .int x2), (3, .int x3)]) hx hb dX5_thingThere_19 hl (by decide) rfl (fun ls hl => ?_)
  refine lv_iconst (v := 0) hx hb dX5_thingThere_21 (by decide) ?_
  refine lv_istore (lv' := [(6, .int 0), (5, .int 0), (4, .int r2), (0, .ref (a 2)), (1, .int x1), (2, .int x2), (3, .int x3)]) hx hb dX5_thingThere_22 hl (by decide) rfl (fun ls hl => ?_)
  exact bkX5_thingThere_24L fu _ _ _ _ _ hB p e s0 m below meth c A E H locs ls hP hD hS (lv_sub hl [3, 4, 2, 1, 0] rfl)
theorem ckX5_thingThere {l : Launch} {dC : Nat → ClassId} {dI : Nat → Nat → Nat} {cB cI cJ cZ cS : ClassId} {a : Nat → Nat} {r : Int32} {s' : KS} {s : KS} {x1 : Int32} {x2 : Int32} {x3 : Int32} (hB : kX5_thingThere s x1 x2 x3 = some (r, s')) : CI l yX5_thingThere wsX5_thingThere ({ frames := 2, cells := 0, slots := 0, locals := 45 }) (dC, dI) (tysA cB cI cJ cZ cS) (wK cB cI cJ cZ cS a s) [.ref (a 2), .int x1, .int x2, .int x3] (fun x u => x = r ∧ u = (wK cB cI cJ cZ cS a s')) :=
  CI_of (cc := cX5_thingThere) (maxL := 7) (ret := (some .int)) (by decide) rfl (Nat.le_of_ble_eq_true rfl) (bkX5_thingThere _ _ _ _ hB)
theorem LX8_believe_18 : Cond.fieldLink RX8 18 "GuessFerry$Tellers" "odds" "[I" ∈ wsX8_believe := (List.mem_cons_of_mem _ (List.mem_append_left _ (List.mem_append_left _ (List.mem_append_left _ (List.mem_append_left _ (List.mem_append_left _ (List.mem_of_getElem? (i := 2) rfl)))))))
theorem LX8_believe_21 : Cond.fieldLink RX8 21 "GuessFerry$Tellers" "belied" "[I" ∈ wsX8_believe := (List.mem_cons_of_mem _ (List.mem_append_left _ (List.mem_append_left _ (List.mem_append_left _ (List.mem_append_left _ (List.mem_append_left _ (List.mem_of_getElem? (i := 3) rfl)))))))
theorem LX8_believe_27 : Cond.fieldLink RX8 27 "GuessFerry$Tellers" "sound" "LGuessFerry$Sound;" ∈ wsX8_believe := (List.mem_cons_of_mem _ (List.mem_append_left _ (List.mem_append_left _ (List.mem_append_left _ (List.mem_append_left _ (List.mem_append_left _ (List.mem_of_getElem? (i := 0) rfl)))))))
theorem LX8_believe_31 : Cond.fieldLink RX8 31 "GuessFerry$Tellers" "crossing" "LGuessFerry$Crossing;" ∈ wsX8_believe := (List.mem_cons_of_mem _ (List.mem_append_left _ (List.mem_append_left _ (List.mem_append_left _ (List.mem_append_left _ (List.mem_append_left _ (List.mem_of_getElem? (i := 1) rfl)))))))
theorem LX8_believe_E_X0_mayBe : Cond.selects RX0 yX0_mayBe yX0_mayBe ∈ wsX8_believe := (List.mem_cons_of_mem _ (List.mem_append_left _ (List.mem_append_left _ (List.mem_append_left _ (List.mem_append_left _ (List.mem_append_left _ (List.mem_of_getElem? (i := 6) rfl)))))))
theorem LX8_believe_E_X5_oddsAt : Cond.selects RX5 yX5_oddsAt yX5_oddsAt ∈ wsX8_believe := (List.mem_cons_of_mem _ (List.mem_append_left _ (List.mem_append_left _ (List.mem_append_left _ (List.mem_append_left _ (List.mem_append_left _ (List.mem_of_getElem? (i := 11) rfl)))))))
theorem LX8_believe_I_X0 : Cond.initialized RX0 ∈ wsX8_believe := (List.mem_cons_of_mem _ (List.mem_append_left _ (List.mem_append_left _ (List.mem_append_left _ (List.mem_append_left _ (List.mem_append_left _ (List.mem_of_getElem? (i := 5) rfl)))))))
theorem LX8_believe_I_X10 : Cond.initialized RX10 ∈ wsX8_believe := (List.mem_cons_of_mem _ (List.mem_append_left _ (List.mem_append_left _ (List.mem_append_left _ (List.mem_append_left _ (List.mem_append_left _ (List.mem_of_getElem? (i := 8) rfl)))))))
theorem LX8_believe_I_X5 : Cond.initialized RX5 ∈ wsX8_believe := (List.mem_cons_of_mem _ (List.mem_append_left _ (List.mem_append_left _ (List.mem_append_left _ (List.mem_append_left _ (List.mem_append_left _ (List.mem_of_getElem? (i := 10) rfl)))))))
theorem LX8_believe_N_X0_mayBe : Cond.instanceMethod yX0_mayBe ∈ wsX8_believe := (List.mem_cons_of_mem _ (List.mem_append_left _ (List.mem_append_left _ (List.mem_append_left _ (List.mem_append_left _ (List.mem_append_left _ (List.mem_of_getElem? (i := 4) rfl)))))))
theorem LX8_believe_N_X5_oddsAt : Cond.instanceMethod yX5_oddsAt ∈ wsX8_believe := (List.mem_cons_of_mem _ (List.mem_append_left _ (List.mem_append_left _ (List.mem_append_left _ (List.mem_append_left _ (List.mem_append_left _ (List.mem_of_getElem? (i := 9) rfl)))))))
theorem LX8_believe_S_X10_has : Cond.static yX10_has ∈ wsX8_believe := (List.mem_cons_of_mem _ (List.mem_append_left _ (List.mem_append_left _ (List.mem_append_left _ (List.mem_append_left _ (List.mem_append_left _ (List.mem_of_getElem? (i := 7) rfl)))))))
theorem inX8_believe_X5 : ∀ w ∈ u_ws RX5 TX5 10, w ∈ wsX8_believe := fun w h => (List.mem_cons_of_mem _ (List.mem_append_left _ (List.mem_append_left _ (List.mem_append_right _ h))))
theorem inX8_believe_X8 : ∀ w ∈ u_ws RX8 TX8 8, w ∈ wsX8_believe := fun w h => (List.mem_cons_of_mem _ (List.mem_append_left _ (List.mem_append_left _ (List.mem_append_left _ (List.mem_append_right _ h)))))
set_option maxHeartbeats 4000000 in
set_option maxRecDepth 100000 in
theorem bkX8_believe_73 {l : Launch} {dC : Nat → ClassId} {dI : Nat → Nat → Nat} {cB cI cJ cZ cS : ClassId} {a b : Nat → Nat} {as : List Value} {s' : JS} {k2 : JS → Int32 → Int32 → Option JS} {k27 : JS → Int32 → Int32 → Int32 → Int32 → Option JS} (hk2 : ∀ (s : JS) (x2 : Int32) (x3 : Int32), k2 s x2 x3 = some s' → BlkV l yX8_believe wsX8_believe ({ frames := 2, cells := 0, slots := 0, locals := 46 }) cX8_believe 7 none (dC, dI) (tysA cB cI cJ cZ cS) as 2 (wJ cB cI cJ cZ cS a b s) [(0, .ref (a 41)), (1, .ref (b 0)), (2, .int x2), (3, .int x3)] [] (fun u => u = (wJ cB cI cJ cZ cS a b s'))) (hk27 : ∀ (s : JS) (x2 : Int32) (x3 : Int32) (x4 : Int32) (x5 : Int32), k27 s x2 x3 x4 x5 = some s' → BlkV l yX8_believe wsX8_believe ({ frames := 2, cells := 0, slots := 0, locals := 46 }) cX8_believe 7 none (dC, dI) (tysA cB cI cJ cZ cS) as 27 (wJ cB cI cJ cZ cS a b s) [(0, .ref (a 41)), (1, .ref (b 0)), (2, .int x2), (3, .int x3), (4, .int x4), (5, .int x5)] [] (fun u => u = (wJ cB cI cJ cZ cS a b s'))) (s : JS) (x2 : Int32) (x3 : Int32) (x4 : Int32) (x5 : Int32) (x6 : Int32) (t0 : Int32) (t1 : Int32) (hB : kX8_believe_73 k2 k27 s x2 x3 x4 x5 x6 t0 t1 = some s') : BlkV l yX8_believe wsX8_believe ({ frames := 2, cells := 0, slots := 0, locals := 46 }) cX8_believe 7 none (dC, dI) (tysA cB cI cJ cZ cS) as 73 (wJ cB cI cJ cZ cS a b s) [(0, .ref (a 41)), (1, .ref (b 0)), (2, .int x2), (3, .int x3), (4, .int x4), (5, .int x5), (6, .int x6)] [.int t0, .int t1, .ref (a 44)] (fun u => u = (wJ cB cI cJ cZ cS a b s')) := by
  intro p e s0 m below meth c A E H locs ls hP hD hS hl
  obtain ⟨C, hr, hlocks, hA, hK, hN⟩ := id E
  obtain ⟨hx, hb, hml, hown, hts⟩ := id C
  unfold kX8_believe_73 at hB
  obtain ⟨g1, hB⟩ := guard_inv hB
  obtain ⟨s2, hs3, hB⟩ := letS_inv hB
  refine q_iast (f2 := (upd (s.k.f 44) (Int32.toNatClampNeg t1) t0)) (w2 := (wJ cB cI cJ cZ cS a b s2)) C hK hP hD hS 50 1 rfl rfl (vpb_in g1) dX8_believe_73 rfl (by subst hs3; rfl) (fun H locs hP hD hS => ?_)
  refine lv_aload_n hx hb dX8_believe_74 rfl (lv_at hl 0 rfl) ?_
  refine q_get (v := .ref (a 45)) C inX8_believe_X8 hK hP 47 rfl rfl 5 (by decide) rfl LX8_believe_21 rfl dX8_believe_75 ?_
  refine lv_iload hx hb dX8_believe_78 (lv_at hl 6 rfl) ?_
  refine lv_aload_n hx hb dX8_believe_80 rfl (lv_at hl 0 rfl) ?_
  refine lv_iload_n hx hb dX8_believe_81 rfl (lv_at hl 3 rfl) ?_
  refine lv_iload hx hb dX8_believe_82 (lv_at hl 5 rfl) ?_
  refine lv_iload_n hx hb dX8_believe_84 rfl (lv_at hl 2 rfl) ?_
  obtain ⟨q_, s4, hc, hB⟩ := bindI_inv hB
  refine q_goi (wr := ((wD cI b s2.d))) (va_runV (As := [.int x3, .int x5, .int x2]) (rest := [.int x6, .ref (a 45)]) C (ckX8_beliedBy hc _) (cwV 3 hts gX8_believe_X8_beliedBy rfl rfl rfl (by decide +kernel) ⟨Nat.le_of_ble_eq_true rfl, Nat.le_of_ble_eq_true rfl⟩) (q_preV hK hP (ci := 8) (q0 := 47) rfl rfl rfl (q_pre hN hK hP hD [6, 7, 8, 9, 10, 11, 12, 13, 14, 15, 16, 17, 18, 19, 20, 21, 22, 23, 24, 25, 26, 27, 28, 29, 30, 31, 32, 33, 34, 35, 36, 37, 38, 39, 40, 41, 42, 43, 44, 45, 46, 47, 48, 49, 50, 51, 52] (by first | exact zqs_6J | rfl) zqn_6)) rfl rfl hl.1 rfl (lv_room (Nat.le_of_ble_eq_true rfl)) dX8_believe_85 ⟨Nat.le_of_ble_eq_true rfl, Nat.le_of_ble_eq_true rfl⟩) hP hD hS hA [6, 7, 8, 9, 10, 11, 12, 13, 14, 15, 16, 17, 18, 19, 20, 21, 22, 23, 24, 25, 26, 27, 28, 29, 30, 31, 32, 33, 34, 35, 36, 37, 38, 39, 40, 41, 42, 43, 44, 45, 46, 47, 48, 49, 50, 51, 52] [0, 1, 2, 3, 4, 5] (by first | exact zqs_6J | rfl) (by first | exact zqs_7J | rfl) zqn_7 zqd_3 (fun r5 w1 H locs hw hP hD hS => ?_)
  obtain ⟨hq_, hw⟩ := hw; subst hw; subst hq_
  obtain ⟨s6, hs7, hB⟩ := letS_inv hB
  have hP : va_P (dC, dI) vwCl (wJ cB cI cJ cZ cS a b s6) H := by subst hs7; exact hP
  have hD : va_D A (wJ cB cI cJ cZ cS a b s6) := by subst hs7; exact hD
  obtain ⟨g8, hB⟩ := guard_inv hB
  obtain ⟨s9, hs10, hB⟩ := letS_inv hB
  refine q_iast (f2 := (upd (s6.k.f 45) (Int32.toNatClampNeg x6) r5)) (w2 := (wJ cB cI cJ cZ cS a b s9)) C hK hP hD hS 51 1 rfl rfl (vpb_in g8) dX8_believe_88 rfl (by subst hs10; rfl) (fun H locs hP hD hS => ?_)
  refine lv_iinc (v := (x5 + 1)) (lv' := [(5, .int (x5 + 1)), (0, .ref (a 41)), (1, .ref (b 0)), (2, .int x2), (3, .int x3), (4, .int x4), (6, .int x6)]) hx hb dX8_believe_89 hl (k := 5) rfl (rfl) (by decide) rfl (fun ls hl => ?_)
  refine lv_goto (tgt := 27) hx hb dX8_believe_92 (by decide) ?_
  exact hk27 _ _ _ _ _ hB p e s0 m below meth c A E H locs ls hP hD hS (lv_sub hl [1, 2, 3, 4, 5, 0] rfl)
set_option maxHeartbeats 4000000 in
set_option maxRecDepth 100000 in
theorem bkX8_believe_27 {l : Launch} {dC : Nat → ClassId} {dI : Nat → Nat → Nat} {cB cI cJ cZ cS : ClassId} {a b : Nat → Nat} {as : List Value} {s' : JS} {k2 : JS → Int32 → Int32 → Option JS} {k27 : JS → Int32 → Int32 → Int32 → Int32 → Option JS} (hk2 : ∀ (s : JS) (x2 : Int32) (x3 : Int32), k2 s x2 x3 = some s' → BlkV l yX8_believe wsX8_believe ({ frames := 2, cells := 0, slots := 0, locals := 46 }) cX8_believe 7 none (dC, dI) (tysA cB cI cJ cZ cS) as 2 (wJ cB cI cJ cZ cS a b s) [(0, .ref (a 41)), (1, .ref (b 0)), (2, .int x2), (3, .int x3)] [] (fun u => u = (wJ cB cI cJ cZ cS a b s'))) (hk27 : ∀ (s : JS) (x2 : Int32) (x3 : Int32) (x4 : Int32) (x5 : Int32), k27 s x2 x3 x4 x5 = some s' → BlkV l yX8_believe wsX8_believe ({ frames := 2, cells := 0, slots := 0, locals := 46 }) cX8_believe 7 none (dC, dI) (tysA cB cI cJ cZ cS) as 27 (wJ cB cI cJ cZ cS a b s) [(0, .ref (a 41)), (1, .ref (b 0)), (2, .int x2), (3, .int x3), (4, .int x4), (5, .int x5)] [] (fun u => u = (wJ cB cI cJ cZ cS a b s'))) (s : JS) (x2 : Int32) (x3 : Int32) (x4 : Int32) (x5 : Int32) (hB : kX8_believe_27 k2 k27 s x2 x3 x4 x5 = some s') : BlkV l yX8_believe wsX8_believe ({ frames := 2, cells := 0, slots := 0, locals := 46 }) cX8_believe 7 none (dC, dI) (tysA cB cI cJ cZ cS) as 27 (wJ cB cI cJ cZ cS a b s) [(0, .ref (a 41)), (1, .ref (b 0)), (2, .int x2), (3, .int x3), (4, .int x4), (5, .int x5)] [] (fun u => u = (wJ cB cI cJ cZ cS a b s')) := by
  intro p e s0 m below meth c A E H locs ls hP hD hS hl
  obtain ⟨C, hr, hlocks, hA, hK, hN⟩ := id E
  obtain ⟨hx, hb, hml, hown, hts⟩ := id C
  unfold kX8_believe_27 at hB
  refine lv_iload hx hb dX8_believe_27 (lv_at hl 5 rfl) ?_
  refine lv_bipush (v := 6) hx hb dX8_believe_29 (by decide) ?_
  refine lv_icmp_ge (tgt := 95) hx hb dX8_believe_31 (by decide) (fun c1 => ?_) (fun c1 => ?_)
  · have hB := if_p hB c1
    refine lv_iinc (v := (x3 + 1)) (lv' := [(3, .int (x3 + 1)), (0, .ref (a 41)), (1, .ref (b 0)), (2, .int x2), (4, .int x4), (5, .int x5)]) hx hb dX8_believe_95 hl (k := 3) rfl (rfl) (by decide) rfl (fun ls hl => ?_)
    refine lv_goto (tgt := 2) hx hb dX8_believe_98 (by decide) ?_
    exact hk2 _ _ _ hB p e s0 m below meth c A E H locs ls hP hD hS (lv_sub hl [1, 2, 3, 0] rfl)
  · have hB := if_n hB c1
    refine lv_iload_n hx hb dX8_believe_34 rfl (lv_at hl 3 rfl) ?_
    refine lv_bipush (v := 6) hx hb dX8_believe_35 (by decide) ?_
    refine lv_imul hx hb dX8_believe_37 ?_
    refine lv_iload hx hb dX8_believe_38 (lv_at hl 5 rfl) ?_
    refine lv_iadd hx hb dX8_believe_40 ?_
    refine lv_istore (lv' := [(6, .int ((x3 * 6) + x5)), (0, .ref (a 41)), (1, .ref (b 0)), (2, .int x2), (3, .int x3), (4, .int x4), (5, .int x5)]) hx hb dX8_believe_41 hl (by decide) rfl (fun ls hl => ?_)
    refine lv_aload_n hx hb dX8_believe_43 rfl (lv_at hl 1 rfl) ?_
    refine q_get (v := .ref (a 44)) C inX8_believe_X8 hK hP 47 rfl rfl 4 (by decide) rfl LX8_believe_18 rfl dX8_believe_44 ?_
    refine lv_iload hx hb dX8_believe_47 (lv_at hl 0 rfl) ?_
    refine lv_iload hx hb dX8_believe_49 (lv_at hl 5 rfl) ?_
    refine lv_iload hx hb dX8_believe_51 (lv_at hl 6 rfl) ?_
    obtain ⟨q_, hc, hB⟩ := bindP_inv hB
    refine q_goi0 (va_runSN (As := [.int x4, .int x5]) (rest := [.int ((x3 * 6) + x5), .ref (a 44)]) C (ckX10_has hc _) ⟨va_cnB 2 hts gX8_believe_X10_has_n50 rfl rfl rfl (hN _ nwM_X8_50 rfl) (hts _ LX8_believe_I_X10) (by decide +kernel) ⟨Nat.le_of_ble_eq_true rfl, Nat.le_of_ble_eq_true rfl⟩, hts _ LX8_believe_S_X10_has, trivial⟩ (q_pre0 hN hK) rfl rfl hl.1 rfl (lv_room (Nat.le_of_ble_eq_true rfl)) dX8_believe_53 ⟨Nat.le_of_ble_eq_true rfl, Nat.le_of_ble_eq_true rfl⟩) hP hD hS hA (fun r2 w1 H locs hw hP hS => ?_)
    subst hw
    refine lv_if_eq (tgt := 72) hx hb dX8_believe_56 (by decide) (fun c3 => ?_) (fun c3 => ?_)
    · have hB := if_p hB c3
      refine lv_iconst (v := 0) hx hb dX8_believe_72 (by decide) ?_
      exact bkX8_believe_73 (hk2) (hk27) _ _ _ _ _ _ _ _ hB p e s0 m below meth c A E H locs ls hP hD hS (lv_sub hl [1, 2, 3, 4, 5, 6, 0] rfl)
    · have hB := if_n hB c3
      refine lv_aload_n hx hb dX8_believe_59 rfl (lv_at hl 1 rfl) ?_
      refine q_get (v := .ref (a 2)) C inX8_believe_X8 hK hP 47 rfl rfl 0 (by decide) rfl LX8_believe_27 rfl dX8_believe_60 ?_
      refine lv_iload_n hx hb dX8_believe_63 rfl (lv_at hl 4 rfl) ?_
      refine lv_iload hx hb dX8_believe_64 (lv_at hl 6 rfl) ?_
      obtain ⟨q_, s4, hc, hB⟩ := bindI_inv hB
      refine q_goi (wr := ((wD cI b s.d))) (va_runVN (As := [.int x3, .int x5]) (rest := [.int ((x3 * 6) + x5), .ref (a 44)]) C (ckX5_oddsAt hc _) ⟨va_cnB 2 hts gX8_believe_X5_oddsAt_n54 rfl rfl rfl (hN _ nwM_X8_54 rfl) (hts _ LX8_believe_I_X5) (by decide +kernel) ⟨Nat.le_of_ble_eq_true rfl, Nat.le_of_ble_eq_true rfl⟩, hts _ LX8_believe_N_X5_oddsAt, hts _ LX8_believe_E_X5_oddsAt⟩ (q_preV hK hP (ci := 5) (q0 := 8) rfl rfl rfl (q_pre hN hK hP hD [6, 7, 8, 9, 10, 11, 12, 13, 14, 15, 16, 17, 18, 19, 20, 21, 22, 23, 24, 25, 26, 27, 28, 29, 30, 31, 32, 33, 34, 35, 36, 37, 38, 39, 40, 41, 42, 43, 44, 45, 46, 47, 48, 49, 50, 51, 52] (by first | exact zqs_6J | rfl) zqn_6)) rfl rfl hl.1 rfl (lv_room (Nat.le_of_ble_eq_true rfl)) dX8_believe_66 ⟨Nat.le_of_ble_eq_true rfl, Nat.le_of_ble_eq_true rfl⟩) hP hD hS hA [6, 7, 8, 9, 10, 11, 12, 13, 14, 15, 16, 17, 18, 19, 20, 21, 22, 23, 24, 25, 26, 27, 28, 29, 30, 31, 32, 33, 34, 35, 36, 37, 38, 39, 40, 41, 42, 43, 44, 45, 46, 47, 48, 49, 50, 51, 52] [0, 1, 2, 3, 4, 5] (by first | exact zqs_6J | rfl) (by first | exact zqs_7J | rfl) zqn_7 zqd_3 (fun r5 w1 H locs hw hP hD hS => ?_)
      obtain ⟨hq_, hw⟩ := hw; subst hw; subst hq_
      obtain ⟨s6, hs7, hB⟩ := letS_inv hB
      have hP : va_P (dC, dI) vwCl (wJ cB cI cJ cZ cS a b s6) H := by subst hs7; exact hP
      have hD : va_D A (wJ cB cI cJ cZ cS a b s6) := by subst hs7; exact hD
      refine lv_goto (tgt := 73) hx hb dX8_believe_69 (by decide) ?_
      exact bkX8_believe_73 (hk2) (hk27) _ _ _ _ _ _ _ _ hB p e s0 m below meth c A E H locs ls hP hD hS (lv_sub hl [1, 2, 3, 4, 5, 6, 0] rfl)
theorem bkX8_believe_27L {l : Launch} {dC : Nat → ClassId} {dI : Nat → Nat → Nat} {cB cI cJ cZ cS : ClassId} {a b : Nat → Nat} {as : List Value} {s' : JS} {k2 : JS → Int32 → Int32 → Option JS} (hk2 : ∀ (s : JS) (x2 : Int32) (x3 : Int32), k2 s x2 x3 = some s' → BlkV l yX8_believe wsX8_believe ({ frames := 2, cells := 0, slots := 0, locals := 46 }) cX8_believe 7 none (dC, dI) (tysA cB cI cJ cZ cS) as 2 (wJ cB cI cJ cZ cS a b s) [(0, .ref (a 41)), (1, .ref (b 0)), (2, .int x2), (3, .int x3)] [] (fun u => u = (wJ cB cI cJ cZ cS a b s'))) : ∀ (n : Nat) (s : JS) (x2 : Int32) (x3 : Int32) (x4 : Int32) (x5 : Int32), kX8_believe_27L k2 n s x2 x3 x4 x5 = some s' → BlkV l yX8_believe wsX8_believe ({ frames := 2, cells := 0, slots := 0, locals := 46 }) cX8_believe 7 none (dC, dI) (tysA cB cI cJ cZ cS) as 27 (wJ cB cI cJ cZ cS a b s) [(0, .ref (a 41)), (1, .ref (b 0)), (2, .int x2), (3, .int x3), (4, .int x4), (5, .int x5)] [] (fun u => u = (wJ cB cI cJ cZ cS a b s')) := by
  intro n
  induction n with
  | zero => intro s x2 x3 x4 x5 hB; exact none_ne hB
  | succ n ih => intro s x2 x3 x4 x5 hB; exact bkX8_believe_27 hk2 ih _ _ _ _ _ hB
set_option maxHeartbeats 4000000 in
set_option maxRecDepth 100000 in
theorem bkX8_believe_2 {l : Launch} {dC : Nat → ClassId} {dI : Nat → Nat → Nat} {cB cI cJ cZ cS : ClassId} {a b : Nat → Nat} {as : List Value} {s' : JS} {k2 : JS → Int32 → Int32 → Option JS} (hk2 : ∀ (s : JS) (x2 : Int32) (x3 : Int32), k2 s x2 x3 = some s' → BlkV l yX8_believe wsX8_believe ({ frames := 2, cells := 0, slots := 0, locals := 46 }) cX8_believe 7 none (dC, dI) (tysA cB cI cJ cZ cS) as 2 (wJ cB cI cJ cZ cS a b s) [(0, .ref (a 41)), (1, .ref (b 0)), (2, .int x2), (3, .int x3)] [] (fun u => u = (wJ cB cI cJ cZ cS a b s'))) (s : JS) (x2 : Int32) (x3 : Int32) (hB : kX8_believe_2 k2 s x2 x3 = some s') : BlkV l yX8_believe wsX8_believe ({ frames := 2, cells := 0, slots := 0, locals := 46 }) cX8_believe 7 none (dC, dI) (tysA cB cI cJ cZ cS) as 2 (wJ cB cI cJ cZ cS a b s) [(0, .ref (a 41)), (1, .ref (b 0)), (2, .int x2), (3, .int x3)] [] (fun u => u = (wJ cB cI cJ cZ cS a b s')) := by
  intro p e s0 m below meth c A E H locs ls hP hD hS hl
  obtain ⟨C, hr, hlocks, hA, hK, hN⟩ := id E
  obtain ⟨hx, hb, hml, hown, hts⟩ := id C
  unfold kX8_believe_2 at hB
  refine lv_iload_n hx hb dX8_believe_2 rfl (lv_at hl 3 rfl) ?_
  refine lv_aload_n hx hb dX8_believe_3 rfl (lv_at hl 0 rfl) ?_
  refine q_get (v := .ref (a 2)) C inX8_believe_X8 hK hP 47 rfl rfl 0 (by decide) rfl LX8_believe_27 rfl dX8_believe_4 ?_
  refine q_getN (v := .int (s.k.v 1)) C hN inX8_believe_X5 hK hP 8 rfl rfl 6 (by decide) rfl nwF_X8_39 rfl dX8_believe_7 ?_
  refine lv_icmp_ge (tgt := 101) hx hb dX8_believe_10 (by decide) (fun c1 => ?_) (fun c1 => ?_)
  · have hB := if_p hB c1
    exact q_vret C hr hlocks hK hP hD hS (Nat.le_of_ble_eq_true rfl) (Nat.le_of_ble_eq_true rfl) dX8_believe_101 (by cases hB; rfl)
  · have hB := if_n hB c1
    refine lv_aload_n hx hb dX8_believe_13 rfl (lv_at hl 0 rfl) ?_
    refine q_get (v := .ref (a 35)) C inX8_believe_X8 hK hP 47 rfl rfl 1 (by decide) rfl LX8_believe_31 rfl dX8_believe_14 ?_
    refine lv_aload_n hx hb dX8_believe_17 rfl (lv_at hl 1 rfl) ?_
    refine lv_iload_n hx hb dX8_believe_18 rfl (lv_at hl 3 rfl) ?_
    obtain ⟨q_, s2, hc, hB⟩ := bindI_inv hB
    refine q_goiF (va_runVN (As := [.ref (b 0), .int x3]) (rest := []) C (ckX0_mayBe hc _) ⟨va_cnB 2 hts gX8_believe_X0_mayBe_n44 rfl rfl rfl (hN _ nwM_X8_44 rfl) (hts _ LX8_believe_I_X0) (by decide +kernel) ⟨Nat.le_of_ble_eq_true rfl, Nat.le_of_ble_eq_true rfl⟩, hts _ LX8_believe_N_X0_mayBe, hts _ LX8_believe_E_X0_mayBe⟩ (q_preV hK hP (ci := 0) (q0 := 41) rfl rfl rfl (q_preF hN hK hP hD)) rfl rfl hl.1 rfl (lv_room (Nat.le_of_ble_eq_true rfl)) dX8_believe_19 ⟨Nat.le_of_ble_eq_true rfl, Nat.le_of_ble_eq_true rfl⟩) hD hS hA (fun r3 w1 H locs hw hP hD hS => ?_)
    obtain ⟨hq_, hw⟩ := hw; subst hw; subst hq_
    refine lv_istore (lv' := [(4, .int r3), (0, .ref (a 41)), (1, .ref (b 0)), (2, .int x2), (3, .int x3)]) hx hb dX8_believe_22 hl (by decide) rfl (fun ls hl => ?_)
    refine lv_iconst (v := 0) hx hb dX8_believe_24 (by decide) ?_
    refine lv_istore (lv' := [(5, .int 0), (4, .int r3), (0, .ref (a 41)), (1, .ref (b 0)), (2, .int x2), (3, .int x3)]) hx hb dX8_believe_25 hl (by decide) rfl (fun ls hl => ?_)
    exact bkX8_believe_27L (hk2) fu _ _ _ _ _ hB p e s0 m below meth c A E H locs ls hP hD hS (lv_sub hl [2, 3, 4, 5, 1, 0] rfl)
theorem bkX8_believe_2L {l : Launch} {dC : Nat → ClassId} {dI : Nat → Nat → Nat} {cB cI cJ cZ cS : ClassId} {a b : Nat → Nat} {as : List Value} {s' : JS} : ∀ (n : Nat) (s : JS) (x2 : Int32) (x3 : Int32), kX8_believe_2L n s x2 x3 = some s' → BlkV l yX8_believe wsX8_believe ({ frames := 2, cells := 0, slots := 0, locals := 46 }) cX8_believe 7 none (dC, dI) (tysA cB cI cJ cZ cS) as 2 (wJ cB cI cJ cZ cS a b s) [(0, .ref (a 41)), (1, .ref (b 0)), (2, .int x2), (3, .int x3)] [] (fun u => u = (wJ cB cI cJ cZ cS a b s')) := by
  intro n
  induction n with
  | zero => intro s x2 x3 hB; exact none_ne hB
  | succ n ih => intro s x2 x3 hB; exact bkX8_believe_2 ih _ _ _ hB
set_option maxHeartbeats 4000000 in
set_option maxRecDepth 100000 in
theorem bkX8_believe {l : Launch} {dC : Nat → ClassId} {dI : Nat → Nat → Nat} {cB cI cJ cZ cS : ClassId} {a b : Nat → Nat} {as : List Value} {s' : JS} (s : JS) (x2 : Int32) (hB : kX8_believe s x2 = some s') : BlkV l yX8_believe wsX8_believe ({ frames := 2, cells := 0, slots := 0, locals := 46 }) cX8_believe 7 none (dC, dI) (tysA cB cI cJ cZ cS) as 0 (wJ cB cI cJ cZ cS a b s) [(0, .ref (a 41)), (1, .ref (b 0)), (2, .int x2)] [] (fun u => u = (wJ cB cI cJ cZ cS a b s')) := by
  intro p e s0 m below meth c A E H locs ls hP hD hS hl
  obtain ⟨C, hr, hlocks, hA, hK, hN⟩ := id E
  obtain ⟨hx, hb, hml, hown, hts⟩ := id C
  unfold kX8_believe at hB
  refine lv_iconst (v := 0) hx hb dX8_believe_0 (by decide) ?_
  refine lv_istore_n (lv' := [(3, .int 0), (0, .ref (a 41)), (1, .ref (b 0)), (2, .int x2)]) hx hb dX8_believe_1 rfl hl (by decide) rfl (fun ls hl => ?_)
  exact bkX8_believe_2L fu _ _ _ hB p e s0 m below meth c A E H locs ls hP hD hS (lv_sub hl [1, 2, 3, 0] rfl)
theorem ckX8_believe {l : Launch} {dC : Nat → ClassId} {dI : Nat → Nat → Nat} {cB cI cJ cZ cS : ClassId} {a b : Nat → Nat} {s' : JS} {s : JS} {x2 : Int32} (hB : kX8_believe s x2 = some s') : CV l yX8_believe wsX8_believe ({ frames := 2, cells := 0, slots := 0, locals := 46 }) (dC, dI) (tysA cB cI cJ cZ cS) (wJ cB cI cJ cZ cS a b s) [.ref (a 41), .ref (b 0), .int x2] (fun u => u = (wJ cB cI cJ cZ cS a b s')) :=
  CV_of (cc := cX8_believe) (maxL := 7) (ret := none) (by decide) rfl (Nat.le_of_ble_eq_true rfl) (bkX8_believe _ _ hB)
theorem LX10_all_35 : Cond.fieldLink RX10 35 "GuessFerry" "now" "LGuessFerry$Standing;" ∈ wsX10_all := (List.mem_cons_of_mem _ (List.mem_append_left _ (List.mem_append_left _ (List.mem_append_left _ (List.mem_append_left _ (List.mem_append_left _ (List.mem_append_left _ (List.mem_of_getElem? (i := 1) rfl))))))))
theorem LX10_all_63 : Cond.fieldLink RX10 63 "GuessFerry" "outlook" "LGuessFerry$Outlook;" ∈ wsX10_all := (List.mem_cons_of_mem _ (List.mem_append_left _ (List.mem_append_left _ (List.mem_append_left _ (List.mem_append_left _ (List.mem_append_left _ (List.mem_append_left _ (List.mem_of_getElem? (i := 0) rfl))))))))
theorem LX10_all_E_X2_oddsOfAll : Cond.selects RX2 yX2_oddsOfAll yX2_oddsOfAll ∈ wsX10_all := (List.mem_cons_of_mem _ (List.mem_append_left _ (List.mem_append_left _ (List.mem_append_left _ (List.mem_append_left _ (List.mem_append_left _ (List.mem_append_left _ (List.mem_of_getElem? (i := 4) rfl))))))))
theorem LX10_all_I_X2 : Cond.initialized RX2 ∈ wsX10_all := (List.mem_cons_of_mem _ (List.mem_append_left _ (List.mem_append_left _ (List.mem_append_left _ (List.mem_append_left _ (List.mem_append_left _ (List.mem_append_left _ (List.mem_of_getElem? (i := 3) rfl))))))))
theorem LX10_all_N_X2_oddsOfAll : Cond.instanceMethod yX2_oddsOfAll ∈ wsX10_all := (List.mem_cons_of_mem _ (List.mem_append_left _ (List.mem_append_left _ (List.mem_append_left _ (List.mem_append_left _ (List.mem_append_left _ (List.mem_append_left _ (List.mem_of_getElem? (i := 2) rfl))))))))
theorem inX10_all_X10 : ∀ w ∈ u_ws RX10 TX10 9, w ∈ wsX10_all := fun w h => (List.mem_cons_of_mem _ (List.mem_append_left _ (List.mem_append_left _ (List.mem_append_left _ (List.mem_append_left _ (List.mem_append_right _ h))))))
set_option maxHeartbeats 4000000 in
set_option maxRecDepth 100000 in
theorem bkX10_all {l : Launch} {dC : Nat → ClassId} {dI : Nat → Nat → Nat} {cB cI cJ cZ cS : ClassId} {a b b2 c0 : Nat → Nat} {rg sl : Nat → Option Nat} {as : List Value} {r : Int32} {s' : XS} (s : XS) (hB : kX10_all s = some (r, s')) : BlkI l yX10_all wsX10_all ({ frames := 3, cells := 0, slots := 0, locals := 71 }) cX10_all 1 (some .int) (dC, dI) (tysA cB cI cJ cZ cS) as 0 (wX cB cI cJ cZ cS a b b2 c0 rg sl s) [(0, .ref (c0 0))] [] (fun x u => x = r ∧ u = (wX cB cI cJ cZ cS a b b2 c0 rg sl s')) := by
  intro p e s0 m below meth c A E H locs ls hP hD hS hl
  obtain ⟨C, hr, hlocks, hA, hK, hN⟩ := id E
  obtain ⟨hx, hb, hml, hown, hts⟩ := id C
  unfold kX10_all at hB
  refine lv_aload_n hx hb dX10_all_0 rfl (lv_at hl 0 rfl) ?_
  refine q_get (v := .ref (a 36)) C inX10_all_X10 hK hP 0 rfl rfl 7 (by decide) rfl LX10_all_63 rfl dX10_all_1 ?_
  refine lv_aload_n hx hb dX10_all_4 rfl (lv_at hl 0 rfl) ?_
  refine q_get (v := .ref (b 0)) C inX10_all_X10 hK hP 0 rfl rfl 3 (by decide) rfl LX10_all_35 rfl dX10_all_5 ?_
  refine lv_iconst (v := (-1)) hx hb dX10_all_8 (by decide) ?_
  obtain ⟨q_, s1, hc, hB⟩ := bindI_inv hB
  refine q_goi (wr := ((wG cZ cS a b b2 c0 rg sl s.g) ++ (wD cI b2 s.t))) (va_runVN (As := [.ref (b 0), .int (-1)]) (rest := []) C (ckX2_oddsOfAll hc _) ⟨va_cnB 2 hts gX10_all_X2_oddsOfAll_n203 rfl rfl rfl (hN _ nwM_X10_203 rfl) (hts _ LX10_all_I_X2) (by decide +kernel) ⟨Nat.le_of_ble_eq_true rfl, Nat.le_of_ble_eq_true rfl⟩, hts _ LX10_all_N_X2_oddsOfAll, hts _ LX10_all_E_X2_oddsOfAll⟩ (q_preV hK hP (ci := 2) (q0 := 53) rfl rfl rfl (q_pre hN hK hP hD [11, 12, 13, 14, 15, 16, 17, 18, 19, 20, 21, 22, 23, 24, 25, 26, 27, 28, 29, 30, 31, 32, 33, 34, 35, 36, 37, 38, 39, 40, 41, 42, 43, 44, 45, 46, 47, 48, 49, 50, 51, 52, 53, 54, 55, 56, 57, 58, 59, 60, 61, 62, 63] (by first | exact zqs_2X | rfl) zqn_2)) rfl rfl hl.1 rfl (lv_room (Nat.le_of_ble_eq_true rfl)) dX10_all_9 ⟨Nat.le_of_ble_eq_true rfl, Nat.le_of_ble_eq_true rfl⟩) hP hD hS hA [11, 12, 13, 14, 15, 16, 17, 18, 19, 20, 21, 22, 23, 24, 25, 26, 27, 28, 29, 30, 31, 32, 33, 34, 35, 36, 37, 38, 39, 40, 41, 42, 43, 44, 45, 46, 47, 48, 49, 50, 51, 52, 53, 54, 55, 56, 57, 58, 59, 60, 61, 62, 63] [0, 1, 2, 3, 4, 5, 6, 7, 8, 9, 10] (by first | exact zqs_2X | rfl) (by first | exact zqs_3X | rfl) zqn_3 zqd_1 (fun r2 w1 H locs hw hP hD hS => ?_)
  obtain ⟨hq_, hw⟩ := hw; subst hw; subst hq_
  obtain ⟨s3, hs4, hB⟩ := letS_inv hB
  have hP : va_P (dC, dI) vwCl (wX cB cI cJ cZ cS a b b2 c0 rg sl s3) H := by subst hs4; exact hP
  have hD : va_D A (wX cB cI cJ cZ cS a b b2 c0 rg sl s3) := by subst hs4; exact hD
  exact q_iret C hr hlocks hK hP hD hS (Nat.le_of_ble_eq_true rfl) (Nat.le_of_ble_eq_true rfl) dX10_all_12 (by cases hB; exact ⟨rfl, rfl⟩)
theorem ckX10_all {l : Launch} {dC : Nat → ClassId} {dI : Nat → Nat → Nat} {cB cI cJ cZ cS : ClassId} {a b b2 c0 : Nat → Nat} {rg sl : Nat → Option Nat} {r : Int32} {s' : XS} {s : XS} (hB : kX10_all s = some (r, s')) : CI l yX10_all wsX10_all ({ frames := 3, cells := 0, slots := 0, locals := 71 }) (dC, dI) (tysA cB cI cJ cZ cS) (wX cB cI cJ cZ cS a b b2 c0 rg sl s) [.ref (c0 0)] (fun x u => x = r ∧ u = (wX cB cI cJ cZ cS a b b2 c0 rg sl s')) :=
  CI_of (cc := cX10_all) (maxL := 1) (ret := (some .int)) (by decide) rfl (Nat.le_of_ble_eq_true rfl) (bkX10_all _ hB)
end
section
theorem ggX0_thereNow_X5_thingThere : GoodIn wsX0_thereNow wsX5_thingThere := gi_sub (fun w h => List.mem_cons_of_mem _ (List.mem_append_left _ (List.mem_append_left _ (List.mem_append_left _ (List.mem_append_right _ h))))) gd_wsX5_thingThere
set_option maxRecDepth 20000 in
theorem gX0_thereNow_X5_thingThere_n46 : GoodIn wsX0_thereNow (wsX5_thingThere) := ggX0_thereNow_X5_thingThere
theorem dX0_thereNow_0 : decode cX0_thereNow 0 = .ok (.aload_n 0, 1) := dc1_42 (by decide +kernel)
theorem dX0_thereNow_1 : decode cX0_thereNow 1 = .ok (.getfield 9, 3) := dcw_180 (by decide +kernel)
theorem dX0_thereNow_4 : decode cX0_thereNow 4 = .ok (.iload_n 2, 1) := dc1_28 (by decide +kernel)
theorem dX0_thereNow_5 : decode cX0_thereNow 5 = .ok (.aload_n 1, 1) := dc1_43 (by decide +kernel)
theorem dX0_thereNow_6 : decode cX0_thereNow 6 = .ok (.getfield 39, 3) := dcw_180 (by decide +kernel)
theorem dX0_thereNow_9 : decode cX0_thereNow 9 = .ok (.iload_n 2, 1) := dc1_28 (by decide +kernel)
theorem dX0_thereNow_10 : decode cX0_thereNow 10 = .ok (.iaload, 1) := dc1_46 (by decide +kernel)
theorem dX0_thereNow_11 : decode cX0_thereNow 11 = .ok (.aload_n 0, 1) := dc1_42 (by decide +kernel)
theorem dX0_thereNow_12 : decode cX0_thereNow 12 = .ok (.getfield 9, 3) := dcw_180 (by decide +kernel)
theorem dX0_thereNow_15 : decode cX0_thereNow 15 = .ok (.getfield 42, 3) := dcw_180 (by decide +kernel)
theorem dX0_thereNow_18 : decode cX0_thereNow 18 = .ok (.invokevirtual 46, 3) := dcw_182 (by decide +kernel)
theorem dX0_thereNow_21 : decode cX0_thereNow 21 = .ok (.ireturn, 1) := dc1_172 (by decide +kernel)
theorem ggX0_guessThere_X5_thingThere : GoodIn wsX0_guessThere wsX5_thingThere := gi_sub (fun w h => List.mem_cons_of_mem _ (List.mem_append_left _ (List.mem_append_left _ (List.mem_append_left _ (List.mem_append_right _ h))))) gd_wsX5_thingThere
set_option maxRecDepth 20000 in
theorem gX0_guessThere_X5_thingThere_n46 : GoodIn wsX0_guessThere (wsX5_thingThere) := ggX0_guessThere_X5_thingThere
theorem dX0_guessThere_0 : decode cX0_guessThere 0 = .ok (.iconst 0, 1) := dc1_3 (by decide +kernel)
theorem dX0_guessThere_1 : decode cX0_guessThere 1 = .ok (.istore_n 3, 1) := dc1_62 (by decide +kernel)
theorem dX0_guessThere_2 : decode cX0_guessThere 2 = .ok (.aload_n 0, 1) := dc1_42 (by decide +kernel)
theorem dX0_guessThere_3 : decode cX0_guessThere 3 = .ok (.getfield 9, 3) := dcw_180 (by decide +kernel)
theorem dX0_guessThere_6 : decode cX0_guessThere 6 = .ok (.getfield 50, 3) := dcw_180 (by decide +kernel)
theorem dX0_guessThere_9 : decode cX0_guessThere 9 = .ok (.iconst 1, 1) := dc1_4 (by decide +kernel)
theorem dX0_guessThere_10 : decode cX0_guessThere 10 = .ok (.isub, 1) := dc1_100 (by decide +kernel)
theorem dX0_guessThere_11 : decode cX0_guessThere 11 = .ok (.istore 4, 2) := dcu_54 (by decide +kernel)
theorem dX0_guessThere_13 : decode cX0_guessThere 13 = .ok (.iload 4, 2) := dcu_21 (by decide +kernel)
theorem dX0_guessThere_15 : decode cX0_guessThere 15 = .ok (.ifCond .lt 32, 3) := dcs_155 (n := 32) (by decide +kernel)
theorem dX0_guessThere_18 : decode cX0_guessThere 18 = .ok (.iload_n 3, 1) := dc1_29 (by decide +kernel)
theorem dX0_guessThere_19 : decode cX0_guessThere 19 = .ok (.bipush 6, 2) := dcb_16 (n := 6) (by decide +kernel)
theorem dX0_guessThere_21 : decode cX0_guessThere 21 = .ok (.imul, 1) := dc1_104 (by decide +kernel)
theorem dX0_guessThere_22 : decode cX0_guessThere 22 = .ok (.aload_n 0, 1) := dc1_42 (by decide +kernel)
theorem dX0_guessThere_23 : decode cX0_guessThere 23 = .ok (.getfield 9, 3) := dcw_180 (by decide +kernel)
theorem dX0_guessThere_26 : decode cX0_guessThere 26 = .ok (.iload 4, 2) := dcu_21 (by decide +kernel)
theorem dX0_guessThere_28 : decode cX0_guessThere 28 = .ok (.aload_n 1, 1) := dc1_43 (by decide +kernel)
theorem dX0_guessThere_29 : decode cX0_guessThere 29 = .ok (.getfield 39, 3) := dcw_180 (by decide +kernel)
theorem dX0_guessThere_32 : decode cX0_guessThere 32 = .ok (.iload 4, 2) := dcu_21 (by decide +kernel)
theorem dX0_guessThere_34 : decode cX0_guessThere 34 = .ok (.iaload, 1) := dc1_46 (by decide +kernel)
theorem dX0_guessThere_35 : decode cX0_guessThere 35 = .ok (.iload_n 2, 1) := dc1_28 (by decide +kernel)
theorem dX0_guessThere_36 : decode cX0_guessThere 36 = .ok (.invokevirtual 46, 3) := dcw_182 (by decide +kernel)
theorem dX0_guessThere_39 : decode cX0_guessThere 39 = .ok (.iadd, 1) := dc1_96 (by decide +kernel)
theorem dX0_guessThere_40 : decode cX0_guessThere 40 = .ok (.istore_n 3, 1) := dc1_62 (by decide +kernel)
theorem dX0_guessThere_41 : decode cX0_guessThere 41 = .ok (.iinc 4 (-1), 3) := dc_iinc (m := 255) (by decide +kernel)
theorem dX0_guessThere_44 : decode cX0_guessThere 44 = .ok (.goto (-31), 3) := dcs_167 (n := 65505) (by decide +kernel)
theorem dX0_guessThere_47 : decode cX0_guessThere 47 = .ok (.iload_n 3, 1) := dc1_29 (by decide +kernel)
theorem dX0_guessThere_48 : decode cX0_guessThere 48 = .ok (.ireturn, 1) := dc1_172 (by decide +kernel)
theorem ggX10_share_X5_hasWave : GoodIn wsX10_share wsX5_hasWave := gi_sub (fun w h => List.mem_cons_of_mem _ (List.mem_append_left _ (List.mem_append_left _ (List.mem_append_left _ (List.mem_append_left _ (List.mem_append_left _ (List.mem_append_right _ (List.mem_append_left _ h)))))))) gd_wsX5_hasWave
set_option maxRecDepth 20000 in
theorem gX10_share_X5_hasWave_n108 : GoodIn wsX10_share (wsX5_hasWave) := ggX10_share_X5_hasWave
theorem ggX10_share_X10_isThing : GoodIn wsX10_share wsX10_isThing := gi_sub (fun w h => List.mem_cons_of_mem _ (List.mem_append_left _ (List.mem_append_left _ (List.mem_append_left _ (List.mem_append_left _ (List.mem_append_left _ (List.mem_append_right _ (List.mem_append_right _ (List.mem_append_left _ h))))))))) gd_wsX10_isThing
set_option maxRecDepth 20000 in
theorem gX10_share_X10_isThing : GoodIn wsX10_share (va_wsS RX10 131 yX10_isThing wsX10_isThing) := goodIn_app (goodIn_of _ (by decide +kernel)) ggX10_share_X10_isThing
theorem ggX10_share_X0_mayBe : GoodIn wsX10_share wsX0_mayBe := gi_sub (fun w h => List.mem_cons_of_mem _ (List.mem_append_left _ (List.mem_append_left _ (List.mem_append_left _ (List.mem_append_left _ (List.mem_append_left _ (List.mem_append_right _ (List.mem_append_right _ (List.mem_append_right _ (List.mem_append_left _ h)))))))))) gd_wsX0_mayBe
set_option maxRecDepth 20000 in
theorem gX10_share_X0_mayBe_n111 : GoodIn wsX10_share (wsX0_mayBe) := ggX10_share_X0_mayBe
theorem ggX10_share_X10_has : GoodIn wsX10_share wsX10_has := gi_sub (fun w h => List.mem_cons_of_mem _ (List.mem_append_left _ (List.mem_append_left _ (List.mem_append_left _ (List.mem_append_left _ (List.mem_append_left _ (List.mem_append_right _ (List.mem_append_right _ (List.mem_append_right _ (List.mem_append_right _ (List.mem_append_left _ h))))))))))) gd_wsX10_has
set_option maxRecDepth 20000 in
theorem gX10_share_X10_has : GoodIn wsX10_share (va_wsS RX10 181 yX10_has wsX10_has) := goodIn_app (goodIn_of _ (by decide +kernel)) ggX10_share_X10_has
theorem ggX10_share_X5_oddsAt : GoodIn wsX10_share wsX5_oddsAt := gi_sub (fun w h => List.mem_cons_of_mem _ (List.mem_append_left _ (List.mem_append_left _ (List.mem_append_left _ (List.mem_append_left _ (List.mem_append_left _ (List.mem_append_right _ (List.mem_append_right _ (List.mem_append_right _ (List.mem_append_right _ (List.mem_append_right _ (List.mem_append_left _ h)))))))))))) gd_wsX5_oddsAt
set_option maxRecDepth 20000 in
theorem gX10_share_X5_oddsAt_n134 : GoodIn wsX10_share (wsX5_oddsAt) := ggX10_share_X5_oddsAt
theorem ggX10_share_X2_oddsOfAll : GoodIn wsX10_share wsX2_oddsOfAll := gi_sub (fun w h => List.mem_cons_of_mem _ (List.mem_append_left _ (List.mem_append_left _ (List.mem_append_left _ (List.mem_append_left _ (List.mem_append_left _ (List.mem_append_right _ (List.mem_append_right _ (List.mem_append_right _ (List.mem_append_right _ (List.mem_append_right _ (List.mem_append_right _ h)))))))))))) gd_wsX2_oddsOfAll
set_option maxRecDepth 20000 in
theorem gX10_share_X2_oddsOfAll_n203 : GoodIn wsX10_share (wsX2_oddsOfAll) := ggX10_share_X2_oddsOfAll
theorem dX10_share_0 : decode cX10_share 0 = .ok (.aload_n 0, 1) := dc1_42 (by decide +kernel)
theorem dX10_share_1 : decode cX10_share 1 = .ok (.getfield 19, 3) := dcw_180 (by decide +kernel)
theorem dX10_share_4 : decode cX10_share 4 = .ok (.iload_n 1, 1) := dc1_27 (by decide +kernel)
theorem dX10_share_5 : decode cX10_share 5 = .ok (.invokevirtual 108, 3) := dcw_182 (by decide +kernel)
theorem dX10_share_8 : decode cX10_share 8 = .ok (.ifCond .eq 10, 3) := dcs_153 (n := 10) (by decide +kernel)
theorem dX10_share_11 : decode cX10_share 11 = .ok (.iload_n 2, 1) := dc1_28 (by decide +kernel)
theorem dX10_share_12 : decode cX10_share 12 = .ok (.invokestatic 131, 3) := dcw_184 (by decide +kernel)
theorem dX10_share_15 : decode cX10_share 15 = .ok (.ifCond .ne 5, 3) := dcs_154 (n := 5) (by decide +kernel)
theorem dX10_share_18 : decode cX10_share 18 = .ok (.iconst (-1), 1) := dc1_2 (by decide +kernel)
theorem dX10_share_19 : decode cX10_share 19 = .ok (.ireturn, 1) := dc1_172 (by decide +kernel)
theorem dX10_share_20 : decode cX10_share 20 = .ok (.aload_n 0, 1) := dc1_42 (by decide +kernel)
theorem dX10_share_21 : decode cX10_share 21 = .ok (.getfield 54, 3) := dcw_180 (by decide +kernel)
theorem dX10_share_24 : decode cX10_share 24 = .ok (.aload_n 0, 1) := dc1_42 (by decide +kernel)
theorem dX10_share_25 : decode cX10_share 25 = .ok (.getfield 35, 3) := dcw_180 (by decide +kernel)
theorem dX10_share_28 : decode cX10_share 28 = .ok (.iload_n 1, 1) := dc1_27 (by decide +kernel)
theorem dX10_share_29 : decode cX10_share 29 = .ok (.invokevirtual 111, 3) := dcw_182 (by decide +kernel)
theorem dX10_share_32 : decode cX10_share 32 = .ok (.iload_n 2, 1) := dc1_28 (by decide +kernel)
theorem dX10_share_33 : decode cX10_share 33 = .ok (.invokestatic 181, 3) := dcw_184 (by decide +kernel)
theorem dX10_share_36 : decode cX10_share 36 = .ok (.ifCond .ne 5, 3) := dcs_154 (n := 5) (by decide +kernel)
theorem dX10_share_39 : decode cX10_share 39 = .ok (.iconst 0, 1) := dc1_3 (by decide +kernel)
theorem dX10_share_40 : decode cX10_share 40 = .ok (.ireturn, 1) := dc1_172 (by decide +kernel)
theorem dX10_share_41 : decode cX10_share 41 = .ok (.aload_n 0, 1) := dc1_42 (by decide +kernel)
theorem dX10_share_42 : decode cX10_share 42 = .ok (.getfield 19, 3) := dcw_180 (by decide +kernel)
theorem dX10_share_45 : decode cX10_share 45 = .ok (.iload_n 1, 1) := dc1_27 (by decide +kernel)
theorem dX10_share_46 : decode cX10_share 46 = .ok (.iload_n 2, 1) := dc1_28 (by decide +kernel)
theorem dX10_share_47 : decode cX10_share 47 = .ok (.invokevirtual 134, 3) := dcw_182 (by decide +kernel)
theorem dX10_share_50 : decode cX10_share 50 = .ok (.aload_n 0, 1) := dc1_42 (by decide +kernel)
theorem dX10_share_51 : decode cX10_share 51 = .ok (.getfield 63, 3) := dcw_180 (by decide +kernel)
theorem dX10_share_54 : decode cX10_share 54 = .ok (.aload_n 0, 1) := dc1_42 (by decide +kernel)
theorem dX10_share_55 : decode cX10_share 55 = .ok (.getfield 35, 3) := dcw_180 (by decide +kernel)
theorem dX10_share_58 : decode cX10_share 58 = .ok (.iload_n 1, 1) := dc1_27 (by decide +kernel)
theorem dX10_share_59 : decode cX10_share 59 = .ok (.invokevirtual 203, 3) := dcw_182 (by decide +kernel)
theorem dX10_share_62 : decode cX10_share 62 = .ok (.imul, 1) := dc1_104 (by decide +kernel)
theorem dX10_share_63 : decode cX10_share 63 = .ok (.ireturn, 1) := dc1_172 (by decide +kernel)
theorem ggX10_drawn_X5_hasWave : GoodIn wsX10_drawn wsX5_hasWave := gi_sub (fun w h => List.mem_cons_of_mem _ (List.mem_append_left _ (List.mem_append_left _ (List.mem_append_left _ (List.mem_append_right _ (List.mem_append_left _ h)))))) gd_wsX5_hasWave
set_option maxRecDepth 20000 in
theorem gX10_drawn_X5_hasWave_n108 : GoodIn wsX10_drawn (wsX5_hasWave) := ggX10_drawn_X5_hasWave
theorem ggX10_drawn_X5_thingThere : GoodIn wsX10_drawn wsX5_thingThere := gi_sub (fun w h => List.mem_cons_of_mem _ (List.mem_append_left _ (List.mem_append_left _ (List.mem_append_left _ (List.mem_append_right _ (List.mem_append_right _ (List.mem_append_left _ h))))))) gd_wsX5_thingThere
set_option maxRecDepth 20000 in
theorem gX10_drawn_X5_thingThere_n259 : GoodIn wsX10_drawn (wsX5_thingThere) := ggX10_drawn_X5_thingThere
theorem ggX10_drawn_J6_bitCount_0f7a4 : GoodIn wsX10_drawn wsJ6_bitCount_0f7a4 := gi_sub (fun w h => List.mem_cons_of_mem _ (List.mem_append_left _ (List.mem_append_left _ (List.mem_append_left _ (List.mem_append_right _ (List.mem_append_right _ (List.mem_append_right _ h))))))) gd_wsJ6_bitCount_0f7a4
set_option maxRecDepth 20000 in
theorem gX10_drawn_J6_bitCount_0f7a4 : GoodIn wsX10_drawn (va_wsS RX10 247 yJ6_bitCount_0f7a4 wsJ6_bitCount_0f7a4) := goodIn_app (goodIn_of _ (by decide +kernel)) ggX10_drawn_J6_bitCount_0f7a4
theorem dX10_drawn_0 : decode cX10_drawn 0 = .ok (.aload_n 0, 1) := dc1_42 (by decide +kernel)
theorem dX10_drawn_1 : decode cX10_drawn 1 = .ok (.getfield 19, 3) := dcw_180 (by decide +kernel)
theorem dX10_drawn_4 : decode cX10_drawn 4 = .ok (.iload_n 1, 1) := dc1_27 (by decide +kernel)
theorem dX10_drawn_5 : decode cX10_drawn 5 = .ok (.invokevirtual 108, 3) := dcw_182 (by decide +kernel)
theorem dX10_drawn_8 : decode cX10_drawn 8 = .ok (.ifCond .eq 14, 3) := dcs_153 (n := 14) (by decide +kernel)
theorem dX10_drawn_11 : decode cX10_drawn 11 = .ok (.iload_n 2, 1) := dc1_28 (by decide +kernel)
theorem dX10_drawn_12 : decode cX10_drawn 12 = .ok (.iconst 1, 1) := dc1_4 (by decide +kernel)
theorem dX10_drawn_13 : decode cX10_drawn 13 = .ok (.if_icmp .lt 9, 3) := dcs_161 (n := 9) (by decide +kernel)
theorem dX10_drawn_16 : decode cX10_drawn 16 = .ok (.iload_n 2, 1) := dc1_28 (by decide +kernel)
theorem dX10_drawn_17 : decode cX10_drawn 17 = .ok (.bipush 20, 2) := dcb_16 (n := 20) (by decide +kernel)
theorem dX10_drawn_19 : decode cX10_drawn 19 = .ok (.if_icmp .le 5, 3) := dcs_164 (n := 5) (by decide +kernel)
theorem dX10_drawn_22 : decode cX10_drawn 22 = .ok (.iconst (-1), 1) := dc1_2 (by decide +kernel)
theorem dX10_drawn_23 : decode cX10_drawn 23 = .ok (.ireturn, 1) := dc1_172 (by decide +kernel)
theorem dX10_drawn_24 : decode cX10_drawn 24 = .ok (.iconst 0, 1) := dc1_3 (by decide +kernel)
theorem dX10_drawn_25 : decode cX10_drawn 25 = .ok (.istore_n 3, 1) := dc1_62 (by decide +kernel)
theorem dX10_drawn_26 : decode cX10_drawn 26 = .ok (.iconst 0, 1) := dc1_3 (by decide +kernel)
theorem dX10_drawn_27 : decode cX10_drawn 27 = .ok (.istore 4, 2) := dcu_54 (by decide +kernel)
theorem dX10_drawn_29 : decode cX10_drawn 29 = .ok (.iload 4, 2) := dcu_21 (by decide +kernel)
theorem dX10_drawn_31 : decode cX10_drawn 31 = .ok (.iload_n 2, 1) := dc1_28 (by decide +kernel)
theorem dX10_drawn_32 : decode cX10_drawn 32 = .ok (.if_icmp .ge 41, 3) := dcs_162 (n := 41) (by decide +kernel)
theorem dX10_drawn_35 : decode cX10_drawn 35 = .ok (.iload_n 3, 1) := dc1_29 (by decide +kernel)
theorem dX10_drawn_36 : decode cX10_drawn 36 = .ok (.iconst 1, 1) := dc1_4 (by decide +kernel)
theorem dX10_drawn_37 : decode cX10_drawn 37 = .ok (.aload_n 0, 1) := dc1_42 (by decide +kernel)
theorem dX10_drawn_38 : decode cX10_drawn 38 = .ok (.getfield 19, 3) := dcw_180 (by decide +kernel)
theorem dX10_drawn_41 : decode cX10_drawn 41 = .ok (.iload_n 1, 1) := dc1_27 (by decide +kernel)
theorem dX10_drawn_42 : decode cX10_drawn 42 = .ok (.aload_n 0, 1) := dc1_42 (by decide +kernel)
theorem dX10_drawn_43 : decode cX10_drawn 43 = .ok (.getfield 35, 3) := dcw_180 (by decide +kernel)
theorem dX10_drawn_46 : decode cX10_drawn 46 = .ok (.getfield 122, 3) := dcw_180 (by decide +kernel)
theorem dX10_drawn_49 : decode cX10_drawn 49 = .ok (.iload_n 1, 1) := dc1_27 (by decide +kernel)
theorem dX10_drawn_50 : decode cX10_drawn 50 = .ok (.iaload, 1) := dc1_46 (by decide +kernel)
theorem dX10_drawn_51 : decode cX10_drawn 51 = .ok (.aload_n 0, 1) := dc1_42 (by decide +kernel)
theorem dX10_drawn_52 : decode cX10_drawn 52 = .ok (.getfield 19, 3) := dcw_180 (by decide +kernel)
theorem dX10_drawn_55 : decode cX10_drawn 55 = .ok (.getfield 253, 3) := dcw_180 (by decide +kernel)
theorem dX10_drawn_58 : decode cX10_drawn 58 = .ok (.iload 4, 2) := dcu_21 (by decide +kernel)
theorem dX10_drawn_60 : decode cX10_drawn 60 = .ok (.iadd, 1) := dc1_96 (by decide +kernel)
theorem dX10_drawn_61 : decode cX10_drawn 61 = .ok (.invokevirtual 259, 3) := dcw_182 (by decide +kernel)
theorem dX10_drawn_64 : decode cX10_drawn 64 = .ok (.ishl, 1) := dc1_120 (by decide +kernel)
theorem dX10_drawn_65 : decode cX10_drawn 65 = .ok (.ior, 1) := dc1_128 (by decide +kernel)
theorem dX10_drawn_66 : decode cX10_drawn 66 = .ok (.istore_n 3, 1) := dc1_62 (by decide +kernel)
theorem dX10_drawn_67 : decode cX10_drawn 67 = .ok (.iinc 4 1, 3) := dc_iinc (m := 1) (by decide +kernel)
theorem dX10_drawn_70 : decode cX10_drawn 70 = .ok (.goto (-41), 3) := dcs_167 (n := 65495) (by decide +kernel)
theorem dX10_drawn_73 : decode cX10_drawn 73 = .ok (.iload_n 3, 1) := dc1_29 (by decide +kernel)
theorem dX10_drawn_74 : decode cX10_drawn 74 = .ok (.invokestatic 247, 3) := dcw_184 (by decide +kernel)
theorem dX10_drawn_77 : decode cX10_drawn 77 = .ok (.ireturn, 1) := dc1_172 (by decide +kernel)
theorem ggX10_fit_X8_areSuch : GoodIn wsX10_fit wsX8_areSuch := gi_sub (fun w h => List.mem_cons_of_mem _ (List.mem_append_left _ (List.mem_append_left _ (List.mem_append_left _ (List.mem_append_left _ (List.mem_append_left _ (List.mem_append_right _ (List.mem_append_left _ h)))))))) gd_wsX8_areSuch
set_option maxRecDepth 20000 in
theorem gX10_fit_X8_areSuch_n266 : GoodIn wsX10_fit (wsX8_areSuch) := ggX10_fit_X8_areSuch
theorem ggX10_fit_X8_believe : GoodIn wsX10_fit wsX8_believe := gi_sub (fun w h => List.mem_cons_of_mem _ (List.mem_append_left _ (List.mem_append_left _ (List.mem_append_left _ (List.mem_append_left _ (List.mem_append_left _ (List.mem_append_right _ (List.mem_append_right _ (List.mem_append_left _ h))))))))) gd_wsX8_believe
set_option maxRecDepth 20000 in
theorem gX10_fit_X8_believe_n269 : GoodIn wsX10_fit (wsX8_believe) := ggX10_fit_X8_believe
theorem ggX10_fit_X8_fitting : GoodIn wsX10_fit wsX8_fitting := gi_sub (fun w h => List.mem_cons_of_mem _ (List.mem_append_left _ (List.mem_append_left _ (List.mem_append_left _ (List.mem_append_left _ (List.mem_append_left _ (List.mem_append_right _ (List.mem_append_right _ (List.mem_append_right _ h))))))))) gd_wsX8_fitting
set_option maxRecDepth 20000 in
theorem gX10_fit_X8_fitting_n272 : GoodIn wsX10_fit (wsX8_fitting) := ggX10_fit_X8_fitting
theorem dX10_fit_0 : decode cX10_fit 0 = .ok (.aload_n 0, 1) := dc1_42 (by decide +kernel)
theorem dX10_fit_1 : decode cX10_fit 1 = .ok (.getfield 70, 3) := dcw_180 (by decide +kernel)
theorem dX10_fit_4 : decode cX10_fit 4 = .ok (.iload_n 1, 1) := dc1_27 (by decide +kernel)
theorem dX10_fit_5 : decode cX10_fit 5 = .ok (.iload_n 2, 1) := dc1_28 (by decide +kernel)
theorem dX10_fit_6 : decode cX10_fit 6 = .ok (.invokevirtual 266, 3) := dcw_182 (by decide +kernel)
theorem dX10_fit_9 : decode cX10_fit 9 = .ok (.ifCond .eq 12, 3) := dcs_153 (n := 12) (by decide +kernel)
theorem dX10_fit_12 : decode cX10_fit 12 = .ok (.iload_n 3, 1) := dc1_29 (by decide +kernel)
theorem dX10_fit_13 : decode cX10_fit 13 = .ok (.ifCond .lt 8, 3) := dcs_155 (n := 8) (by decide +kernel)
theorem dX10_fit_16 : decode cX10_fit 16 = .ok (.iload_n 3, 1) := dc1_29 (by decide +kernel)
theorem dX10_fit_17 : decode cX10_fit 17 = .ok (.iconst 1, 1) := dc1_4 (by decide +kernel)
theorem dX10_fit_18 : decode cX10_fit 18 = .ok (.if_icmp .le 5, 3) := dcs_164 (n := 5) (by decide +kernel)
theorem dX10_fit_21 : decode cX10_fit 21 = .ok (.iconst (-1), 1) := dc1_2 (by decide +kernel)
theorem dX10_fit_22 : decode cX10_fit 22 = .ok (.ireturn, 1) := dc1_172 (by decide +kernel)
theorem dX10_fit_23 : decode cX10_fit 23 = .ok (.aload_n 0, 1) := dc1_42 (by decide +kernel)
theorem dX10_fit_24 : decode cX10_fit 24 = .ok (.getfield 70, 3) := dcw_180 (by decide +kernel)
theorem dX10_fit_27 : decode cX10_fit 27 = .ok (.aload_n 0, 1) := dc1_42 (by decide +kernel)
theorem dX10_fit_28 : decode cX10_fit 28 = .ok (.getfield 35, 3) := dcw_180 (by decide +kernel)
theorem dX10_fit_31 : decode cX10_fit 31 = .ok (.iload_n 1, 1) := dc1_27 (by decide +kernel)
theorem dX10_fit_32 : decode cX10_fit 32 = .ok (.invokevirtual 269, 3) := dcw_182 (by decide +kernel)
theorem dX10_fit_35 : decode cX10_fit 35 = .ok (.aload_n 0, 1) := dc1_42 (by decide +kernel)
theorem dX10_fit_36 : decode cX10_fit 36 = .ok (.getfield 70, 3) := dcw_180 (by decide +kernel)
theorem dX10_fit_39 : decode cX10_fit 39 = .ok (.iload_n 2, 1) := dc1_28 (by decide +kernel)
theorem dX10_fit_40 : decode cX10_fit 40 = .ok (.iload_n 3, 1) := dc1_29 (by decide +kernel)
theorem dX10_fit_41 : decode cX10_fit 41 = .ok (.iconst 1, 1) := dc1_4 (by decide +kernel)
theorem dX10_fit_42 : decode cX10_fit 42 = .ok (.if_icmp .ne 7, 3) := dcs_160 (n := 7) (by decide +kernel)
theorem dX10_fit_45 : decode cX10_fit 45 = .ok (.iconst 1, 1) := dc1_4 (by decide +kernel)
theorem dX10_fit_46 : decode cX10_fit 46 = .ok (.goto 4, 3) := dcs_167 (n := 4) (by decide +kernel)
theorem dX10_fit_49 : decode cX10_fit 49 = .ok (.iconst 0, 1) := dc1_3 (by decide +kernel)
theorem dX10_fit_50 : decode cX10_fit 50 = .ok (.invokevirtual 272, 3) := dcw_182 (by decide +kernel)
theorem dX10_fit_53 : decode cX10_fit 53 = .ok (.ireturn, 1) := dc1_172 (by decide +kernel)
theorem ggX10_lie_X8_areSuch : GoodIn wsX10_lie wsX8_areSuch := gi_sub (fun w h => List.mem_cons_of_mem _ (List.mem_append_left _ (List.mem_append_left _ (List.mem_append_left _ (List.mem_append_left _ (List.mem_append_left _ (List.mem_append_right _ (List.mem_append_left _ h)))))))) gd_wsX8_areSuch
set_option maxRecDepth 20000 in
theorem gX10_lie_X8_areSuch_n266 : GoodIn wsX10_lie (wsX8_areSuch) := ggX10_lie_X8_areSuch
theorem ggX10_lie_X8_believe : GoodIn wsX10_lie wsX8_believe := gi_sub (fun w h => List.mem_cons_of_mem _ (List.mem_append_left _ (List.mem_append_left _ (List.mem_append_left _ (List.mem_append_left _ (List.mem_append_left _ (List.mem_append_right _ (List.mem_append_right _ (List.mem_append_left _ h))))))))) gd_wsX8_believe
set_option maxRecDepth 20000 in
theorem gX10_lie_X8_believe_n269 : GoodIn wsX10_lie (wsX8_believe) := ggX10_lie_X8_believe
theorem ggX10_lie_X8_liars : GoodIn wsX10_lie wsX8_liars := gi_sub (fun w h => List.mem_cons_of_mem _ (List.mem_append_left _ (List.mem_append_left _ (List.mem_append_left _ (List.mem_append_left _ (List.mem_append_left _ (List.mem_append_right _ (List.mem_append_right _ (List.mem_append_right _ h))))))))) gd_wsX8_liars
set_option maxRecDepth 20000 in
theorem gX10_lie_X8_liars_n276 : GoodIn wsX10_lie (wsX8_liars) := ggX10_lie_X8_liars
theorem dX10_lie_0 : decode cX10_lie 0 = .ok (.aload_n 0, 1) := dc1_42 (by decide +kernel)
theorem dX10_lie_1 : decode cX10_lie 1 = .ok (.getfield 70, 3) := dcw_180 (by decide +kernel)
theorem dX10_lie_4 : decode cX10_lie 4 = .ok (.iload_n 1, 1) := dc1_27 (by decide +kernel)
theorem dX10_lie_5 : decode cX10_lie 5 = .ok (.iload_n 2, 1) := dc1_28 (by decide +kernel)
theorem dX10_lie_6 : decode cX10_lie 6 = .ok (.invokevirtual 266, 3) := dcw_182 (by decide +kernel)
theorem dX10_lie_9 : decode cX10_lie 9 = .ok (.ifCond .ne 5, 3) := dcs_154 (n := 5) (by decide +kernel)
theorem dX10_lie_12 : decode cX10_lie 12 = .ok (.iconst (-1), 1) := dc1_2 (by decide +kernel)
theorem dX10_lie_13 : decode cX10_lie 13 = .ok (.ireturn, 1) := dc1_172 (by decide +kernel)
theorem dX10_lie_14 : decode cX10_lie 14 = .ok (.aload_n 0, 1) := dc1_42 (by decide +kernel)
theorem dX10_lie_15 : decode cX10_lie 15 = .ok (.getfield 70, 3) := dcw_180 (by decide +kernel)
theorem dX10_lie_18 : decode cX10_lie 18 = .ok (.aload_n 0, 1) := dc1_42 (by decide +kernel)
theorem dX10_lie_19 : decode cX10_lie 19 = .ok (.getfield 35, 3) := dcw_180 (by decide +kernel)
theorem dX10_lie_22 : decode cX10_lie 22 = .ok (.iload_n 1, 1) := dc1_27 (by decide +kernel)
theorem dX10_lie_23 : decode cX10_lie 23 = .ok (.invokevirtual 269, 3) := dcw_182 (by decide +kernel)
theorem dX10_lie_26 : decode cX10_lie 26 = .ok (.aload_n 0, 1) := dc1_42 (by decide +kernel)
theorem dX10_lie_27 : decode cX10_lie 27 = .ok (.getfield 70, 3) := dcw_180 (by decide +kernel)
theorem dX10_lie_30 : decode cX10_lie 30 = .ok (.iload_n 1, 1) := dc1_27 (by decide +kernel)
theorem dX10_lie_31 : decode cX10_lie 31 = .ok (.iload_n 2, 1) := dc1_28 (by decide +kernel)
theorem dX10_lie_32 : decode cX10_lie 32 = .ok (.invokevirtual 276, 3) := dcw_182 (by decide +kernel)
theorem dX10_lie_35 : decode cX10_lie 35 = .ok (.ireturn, 1) := dc1_172 (by decide +kernel)
theorem ggX10_ask_X8_areSuch : GoodIn wsX10_ask wsX8_areSuch := gi_sub (fun w h => List.mem_cons_of_mem _ (List.mem_append_left _ (List.mem_append_left _ (List.mem_append_left _ (List.mem_append_left _ (List.mem_append_left _ (List.mem_append_right _ (List.mem_append_left _ h)))))))) gd_wsX8_areSuch
set_option maxRecDepth 20000 in
theorem gX10_ask_X8_areSuch_n266 : GoodIn wsX10_ask (wsX8_areSuch) := ggX10_ask_X8_areSuch
theorem ggX10_ask_X8_believe : GoodIn wsX10_ask wsX8_believe := gi_sub (fun w h => List.mem_cons_of_mem _ (List.mem_append_left _ (List.mem_append_left _ (List.mem_append_left _ (List.mem_append_left _ (List.mem_append_left _ (List.mem_append_right _ (List.mem_append_right _ (List.mem_append_left _ h))))))))) gd_wsX8_believe
set_option maxRecDepth 20000 in
theorem gX10_ask_X8_believe_n269 : GoodIn wsX10_ask (wsX8_believe) := ggX10_ask_X8_believe
theorem ggX10_ask_X8_waveToAsk : GoodIn wsX10_ask wsX8_waveToAsk := gi_sub (fun w h => List.mem_cons_of_mem _ (List.mem_append_left _ (List.mem_append_left _ (List.mem_append_left _ (List.mem_append_left _ (List.mem_append_left _ (List.mem_append_right _ (List.mem_append_right _ (List.mem_append_right _ h))))))))) gd_wsX8_waveToAsk
set_option maxRecDepth 20000 in
theorem gX10_ask_X8_waveToAsk_n279 : GoodIn wsX10_ask (wsX8_waveToAsk) := ggX10_ask_X8_waveToAsk
theorem dX10_ask_0 : decode cX10_ask 0 = .ok (.aload_n 0, 1) := dc1_42 (by decide +kernel)
theorem dX10_ask_1 : decode cX10_ask 1 = .ok (.getfield 70, 3) := dcw_180 (by decide +kernel)
theorem dX10_ask_4 : decode cX10_ask 4 = .ok (.iload_n 1, 1) := dc1_27 (by decide +kernel)
theorem dX10_ask_5 : decode cX10_ask 5 = .ok (.iload_n 2, 1) := dc1_28 (by decide +kernel)
theorem dX10_ask_6 : decode cX10_ask 6 = .ok (.invokevirtual 266, 3) := dcw_182 (by decide +kernel)
theorem dX10_ask_9 : decode cX10_ask 9 = .ok (.ifCond .ne 5, 3) := dcs_154 (n := 5) (by decide +kernel)
theorem dX10_ask_12 : decode cX10_ask 12 = .ok (.iconst (-1), 1) := dc1_2 (by decide +kernel)
theorem dX10_ask_13 : decode cX10_ask 13 = .ok (.ireturn, 1) := dc1_172 (by decide +kernel)
theorem dX10_ask_14 : decode cX10_ask 14 = .ok (.aload_n 0, 1) := dc1_42 (by decide +kernel)
theorem dX10_ask_15 : decode cX10_ask 15 = .ok (.getfield 70, 3) := dcw_180 (by decide +kernel)
theorem dX10_ask_18 : decode cX10_ask 18 = .ok (.aload_n 0, 1) := dc1_42 (by decide +kernel)
theorem dX10_ask_19 : decode cX10_ask 19 = .ok (.getfield 35, 3) := dcw_180 (by decide +kernel)
theorem dX10_ask_22 : decode cX10_ask 22 = .ok (.iload_n 1, 1) := dc1_27 (by decide +kernel)
theorem dX10_ask_23 : decode cX10_ask 23 = .ok (.invokevirtual 269, 3) := dcw_182 (by decide +kernel)
theorem dX10_ask_26 : decode cX10_ask 26 = .ok (.aload_n 0, 1) := dc1_42 (by decide +kernel)
theorem dX10_ask_27 : decode cX10_ask 27 = .ok (.getfield 70, 3) := dcw_180 (by decide +kernel)
theorem dX10_ask_30 : decode cX10_ask 30 = .ok (.iload_n 2, 1) := dc1_28 (by decide +kernel)
theorem dX10_ask_31 : decode cX10_ask 31 = .ok (.invokevirtual 279, 3) := dcw_182 (by decide +kernel)
theorem dX10_ask_34 : decode cX10_ask 34 = .ok (.ireturn, 1) := dc1_172 (by decide +kernel)
theorem LX10_share_19 : Cond.fieldLink RX10 19 "GuessFerry" "sound" "LGuessFerry$Sound;" ∈ wsX10_share := (List.mem_cons_of_mem _ (List.mem_append_left _ (List.mem_append_left _ (List.mem_append_left _ (List.mem_append_left _ (List.mem_append_left _ (List.mem_append_left _ (List.mem_of_getElem? (i := 0) rfl))))))))
theorem LX10_share_35 : Cond.fieldLink RX10 35 "GuessFerry" "now" "LGuessFerry$Standing;" ∈ wsX10_share := (List.mem_cons_of_mem _ (List.mem_append_left _ (List.mem_append_left _ (List.mem_append_left _ (List.mem_append_left _ (List.mem_append_left _ (List.mem_append_left _ (List.mem_of_getElem? (i := 2) rfl))))))))
theorem LX10_share_54 : Cond.fieldLink RX10 54 "GuessFerry" "crossing" "LGuessFerry$Crossing;" ∈ wsX10_share := (List.mem_cons_of_mem _ (List.mem_append_left _ (List.mem_append_left _ (List.mem_append_left _ (List.mem_append_left _ (List.mem_append_left _ (List.mem_append_left _ (List.mem_of_getElem? (i := 1) rfl))))))))
theorem LX10_share_63 : Cond.fieldLink RX10 63 "GuessFerry" "outlook" "LGuessFerry$Outlook;" ∈ wsX10_share := (List.mem_cons_of_mem _ (List.mem_append_left _ (List.mem_append_left _ (List.mem_append_left _ (List.mem_append_left _ (List.mem_append_left _ (List.mem_append_left _ (List.mem_of_getElem? (i := 3) rfl))))))))
theorem LX10_share_E_X0_mayBe : Cond.selects RX0 yX0_mayBe yX0_mayBe ∈ wsX10_share := (List.mem_cons_of_mem _ (List.mem_append_left _ (List.mem_append_left _ (List.mem_append_left _ (List.mem_append_left _ (List.mem_append_left _ (List.mem_append_left _ (List.mem_of_getElem? (i := 12) rfl))))))))
theorem LX10_share_E_X2_oddsOfAll : Cond.selects RX2 yX2_oddsOfAll yX2_oddsOfAll ∈ wsX10_share := (List.mem_cons_of_mem _ (List.mem_append_left _ (List.mem_append_left _ (List.mem_append_left _ (List.mem_append_left _ (List.mem_append_left _ (List.mem_append_left _ (List.mem_of_getElem? (i := 19) rfl))))))))
theorem LX10_share_E_X5_hasWave : Cond.selects RX5 yX5_hasWave yX5_hasWave ∈ wsX10_share := (List.mem_cons_of_mem _ (List.mem_append_left _ (List.mem_append_left _ (List.mem_append_left _ (List.mem_append_left _ (List.mem_append_left _ (List.mem_append_left _ (List.mem_of_getElem? (i := 6) rfl))))))))
theorem LX10_share_E_X5_oddsAt : Cond.selects RX5 yX5_oddsAt yX5_oddsAt ∈ wsX10_share := (List.mem_cons_of_mem _ (List.mem_append_left _ (List.mem_append_left _ (List.mem_append_left _ (List.mem_append_left _ (List.mem_append_left _ (List.mem_append_left _ (List.mem_of_getElem? (i := 16) rfl))))))))
theorem LX10_share_I_X0 : Cond.initialized RX0 ∈ wsX10_share := (List.mem_cons_of_mem _ (List.mem_append_left _ (List.mem_append_left _ (List.mem_append_left _ (List.mem_append_left _ (List.mem_append_left _ (List.mem_append_left _ (List.mem_of_getElem? (i := 11) rfl))))))))
theorem LX10_share_I_X2 : Cond.initialized RX2 ∈ wsX10_share := (List.mem_cons_of_mem _ (List.mem_append_left _ (List.mem_append_left _ (List.mem_append_left _ (List.mem_append_left _ (List.mem_append_left _ (List.mem_append_left _ (List.mem_of_getElem? (i := 18) rfl))))))))
theorem LX10_share_I_X5 : Cond.initialized RX5 ∈ wsX10_share := (List.mem_cons_of_mem _ (List.mem_append_left _ (List.mem_append_left _ (List.mem_append_left _ (List.mem_append_left _ (List.mem_append_left _ (List.mem_append_left _ (List.mem_of_getElem? (i := 5) rfl))))))))
theorem LX10_share_N_X0_mayBe : Cond.instanceMethod yX0_mayBe ∈ wsX10_share := (List.mem_cons_of_mem _ (List.mem_append_left _ (List.mem_append_left _ (List.mem_append_left _ (List.mem_append_left _ (List.mem_append_left _ (List.mem_append_left _ (List.mem_of_getElem? (i := 10) rfl))))))))
theorem LX10_share_N_X2_oddsOfAll : Cond.instanceMethod yX2_oddsOfAll ∈ wsX10_share := (List.mem_cons_of_mem _ (List.mem_append_left _ (List.mem_append_left _ (List.mem_append_left _ (List.mem_append_left _ (List.mem_append_left _ (List.mem_append_left _ (List.mem_of_getElem? (i := 17) rfl))))))))
theorem LX10_share_N_X5_hasWave : Cond.instanceMethod yX5_hasWave ∈ wsX10_share := (List.mem_cons_of_mem _ (List.mem_append_left _ (List.mem_append_left _ (List.mem_append_left _ (List.mem_append_left _ (List.mem_append_left _ (List.mem_append_left _ (List.mem_of_getElem? (i := 4) rfl))))))))
theorem LX10_share_N_X5_oddsAt : Cond.instanceMethod yX5_oddsAt ∈ wsX10_share := (List.mem_cons_of_mem _ (List.mem_append_left _ (List.mem_append_left _ (List.mem_append_left _ (List.mem_append_left _ (List.mem_append_left _ (List.mem_append_left _ (List.mem_of_getElem? (i := 15) rfl))))))))
theorem inX10_share_X10 : ∀ w ∈ u_ws RX10 TX10 9, w ∈ wsX10_share := fun w h => (List.mem_cons_of_mem _ (List.mem_append_left _ (List.mem_append_left _ (List.mem_append_left _ (List.mem_append_left _ (List.mem_append_right _ h))))))
set_option maxHeartbeats 4000000 in
set_option maxRecDepth 100000 in
theorem bkX10_share {l : Launch} {dC : Nat → ClassId} {dI : Nat → Nat → Nat} {cB cI cJ cZ cS : ClassId} {a b b2 c0 : Nat → Nat} {rg sl : Nat → Option Nat} {as : List Value} {r : Int32} {s' : XS} (s : XS) (x1 : Int32) (x2 : Int32) (hB : kX10_share s x1 x2 = some (r, s')) : BlkI l yX10_share wsX10_share ({ frames := 3, cells := 0, slots := 0, locals := 71 }) cX10_share 3 (some .int) (dC, dI) (tysA cB cI cJ cZ cS) as 0 (wX cB cI cJ cZ cS a b b2 c0 rg sl s) [(0, .ref (c0 0)), (1, .int x1), (2, .int x2)] [] (fun x u => x = r ∧ u = (wX cB cI cJ cZ cS a b b2 c0 rg sl s')) := by
  intro p e s0 m below meth c A E H locs ls hP hD hS hl
  obtain ⟨C, hr, hlocks, hA, hK, hN⟩ := id E
  obtain ⟨hx, hb, hml, hown, hts⟩ := id C
  unfold kX10_share at hB
  refine lv_aload_n hx hb dX10_share_0 rfl (lv_at hl 0 rfl) ?_
  refine q_get (v := .ref (a 2)) C inX10_share_X10 hK hP 0 rfl rfl 1 (by decide) rfl LX10_share_19 rfl dX10_share_1 ?_
  refine lv_iload_n hx hb dX10_share_4 rfl (lv_at hl 1 rfl) ?_
  obtain ⟨q_, s1, hc, hB⟩ := bindI_inv hB
  refine q_goi (wr := ((wG cZ cS a b b2 c0 rg sl s.g) ++ (wD cI b2 s.t) ++ (wD cI b s.n))) (va_runVN (As := [.int x1]) (rest := []) C (ckX5_hasWave hc _) ⟨va_cnB 1 hts gX10_share_X5_hasWave_n108 rfl rfl rfl (hN _ nwM_X10_108 rfl) (hts _ LX10_share_I_X5) (by decide +kernel) ⟨Nat.le_of_ble_eq_true rfl, Nat.le_of_ble_eq_true rfl⟩, hts _ LX10_share_N_X5_hasWave, hts _ LX10_share_E_X5_hasWave⟩ (q_preV hK hP (ci := 5) (q0 := 19) rfl rfl rfl (q_pre hN hK hP hD [17, 18, 19, 20, 21, 22, 23, 24, 25, 26, 27, 28, 29, 30, 31, 32, 33, 34, 35, 36, 37, 38, 39, 40, 41, 42, 43, 44, 45, 46, 47, 48, 49, 50, 51, 52, 53, 54, 55, 56, 57, 58, 59, 60, 61, 62, 63] (by first | exact zqs_0X | rfl) zqn_0)) rfl rfl hl.1 rfl (lv_room (Nat.le_of_ble_eq_true rfl)) dX10_share_5 ⟨Nat.le_of_ble_eq_true rfl, Nat.le_of_ble_eq_true rfl⟩) hP hD hS hA [17, 18, 19, 20, 21, 22, 23, 24, 25, 26, 27, 28, 29, 30, 31, 32, 33, 34, 35, 36, 37, 38, 39, 40, 41, 42, 43, 44, 45, 46, 47, 48, 49, 50, 51, 52, 53, 54, 55, 56, 57, 58, 59, 60, 61, 62, 63] [0, 1, 2, 3, 4, 5, 6, 7, 8, 9, 10, 11, 12, 13, 14, 15, 16] (by first | exact zqs_0X | rfl) (by first | exact zqs_1X | rfl) zqn_1 zqd_0 (fun r2 w1 H locs hw hP hD hS => ?_)
  obtain ⟨hq_, hw⟩ := hw; subst hw; subst hq_
  obtain ⟨s3, hs4, hB⟩ := letS_inv hB
  have hP : va_P (dC, dI) vwCl (wX cB cI cJ cZ cS a b b2 c0 rg sl s3) H := by subst hs4; exact hP
  have hD : va_D A (wX cB cI cJ cZ cS a b b2 c0 rg sl s3) := by subst hs4; exact hD
  refine lv_if_eq (tgt := 18) hx hb dX10_share_8 (by decide) (fun c5 => ?_) (fun c5 => ?_)
  · have hB := if_p hB c5
    refine lv_iconst (v := (-1)) hx hb dX10_share_18 (by decide) ?_
    exact q_iret C hr hlocks hK hP hD hS (Nat.le_of_ble_eq_true rfl) (Nat.le_of_ble_eq_true rfl) dX10_share_19 (by cases hB; exact ⟨rfl, rfl⟩)
  · have hB := if_n hB c5
    refine lv_iload_n hx hb dX10_share_11 rfl (lv_at hl 2 rfl) ?_
    obtain ⟨q_, hc, hB⟩ := bindP_inv hB
    refine q_goi0 (va_runS (As := [.int x2]) (rest := []) C (ckX10_isThing hc _) (va_cwS 1 hts gX10_share_X10_isThing rfl rfl rfl (by decide +kernel) ⟨Nat.le_of_ble_eq_true rfl, Nat.le_of_ble_eq_true rfl⟩) (q_pre0 hN hK) rfl rfl hl.1 rfl (lv_room (Nat.le_of_ble_eq_true rfl)) dX10_share_12 ⟨Nat.le_of_ble_eq_true rfl, Nat.le_of_ble_eq_true rfl⟩) hP hD hS hA (fun r6 w1 H locs hw hP hS => ?_)
    subst hw
    refine lv_if_ne (tgt := 20) hx hb dX10_share_15 (by decide) (fun c7 => ?_) (fun c7 => ?_)
    · have hB := if_n hB c7
      refine lv_aload_n hx hb dX10_share_20 rfl (lv_at hl 0 rfl) ?_
      refine q_get (v := .ref (a 35)) C inX10_share_X10 hK hP 0 rfl rfl 6 (by decide) rfl LX10_share_54 rfl dX10_share_21 ?_
      refine lv_aload_n hx hb dX10_share_24 rfl (lv_at hl 0 rfl) ?_
      refine q_get (v := .ref (b 0)) C inX10_share_X10 hK hP 0 rfl rfl 3 (by decide) rfl LX10_share_35 rfl dX10_share_25 ?_
      refine lv_iload_n hx hb dX10_share_28 rfl (lv_at hl 1 rfl) ?_
      obtain ⟨q_, s8, hc, hB⟩ := bindI_inv hB
      refine q_goi (wr := ((wG cZ cS a b b2 c0 rg sl s3.g) ++ (wD cI b2 s3.t))) (va_runVN (As := [.ref (b 0), .int x1]) (rest := []) C (ckX0_mayBe hc _) ⟨va_cnB 2 hts gX10_share_X0_mayBe_n111 rfl rfl rfl (hN _ nwM_X10_111 rfl) (hts _ LX10_share_I_X0) (by decide +kernel) ⟨Nat.le_of_ble_eq_true rfl, Nat.le_of_ble_eq_true rfl⟩, hts _ LX10_share_N_X0_mayBe, hts _ LX10_share_E_X0_mayBe⟩ (q_preV hK hP (ci := 0) (q0 := 52) rfl rfl rfl (q_pre hN hK hP hD [11, 12, 13, 14, 15, 16, 17, 18, 19, 20, 21, 22, 23, 24, 25, 26, 27, 28, 29, 30, 31, 32, 33, 34, 35, 36, 37, 38, 39, 40, 41, 42, 43, 44, 45, 46, 47, 48, 49, 50, 51, 52, 53, 54, 55, 56, 57, 58, 59, 60, 61, 62, 63] (by first | exact zqs_2X | rfl) zqn_2)) rfl rfl hl.1 rfl (lv_room (Nat.le_of_ble_eq_true rfl)) dX10_share_29 ⟨Nat.le_of_ble_eq_true rfl, Nat.le_of_ble_eq_true rfl⟩) hP hD hS hA [11, 12, 13, 14, 15, 16, 17, 18, 19, 20, 21, 22, 23, 24, 25, 26, 27, 28, 29, 30, 31, 32, 33, 34, 35, 36, 37, 38, 39, 40, 41, 42, 43, 44, 45, 46, 47, 48, 49, 50, 51, 52, 53, 54, 55, 56, 57, 58, 59, 60, 61, 62, 63] [0, 1, 2, 3, 4, 5, 6, 7, 8, 9, 10] (by first | exact zqs_2X | rfl) (by first | exact zqs_3X | rfl) zqn_3 zqd_1 (fun r9 w1 H locs hw hP hD hS => ?_)
      obtain ⟨hq_, hw⟩ := hw; subst hw; subst hq_
      obtain ⟨s10, hs11, hB⟩ := letS_inv hB
      have hP : va_P (dC, dI) vwCl (wX cB cI cJ cZ cS a b b2 c0 rg sl s10) H := by subst hs11; exact hP
      have hD : va_D A (wX cB cI cJ cZ cS a b b2 c0 rg sl s10) := by subst hs11; exact hD
      refine lv_iload_n hx hb dX10_share_32 rfl (lv_at hl 2 rfl) ?_
      obtain ⟨q_, hc, hB⟩ := bindP_inv hB
      refine q_goi0 (va_runS (As := [.int r9, .int x2]) (rest := []) C (ckX10_has hc _) (va_cwS 2 hts gX10_share_X10_has rfl rfl rfl (by decide +kernel) ⟨Nat.le_of_ble_eq_true rfl, Nat.le_of_ble_eq_true rfl⟩) (q_pre0 hN hK) rfl rfl hl.1 rfl (lv_room (Nat.le_of_ble_eq_true rfl)) dX10_share_33 ⟨Nat.le_of_ble_eq_true rfl, Nat.le_of_ble_eq_true rfl⟩) hP hD hS hA (fun r12 w1 H locs hw hP hS => ?_)
      subst hw
      refine lv_if_ne (tgt := 41) hx hb dX10_share_36 (by decide) (fun c13 => ?_) (fun c13 => ?_)
      · have hB := if_n hB c13
        refine lv_aload_n hx hb dX10_share_41 rfl (lv_at hl 0 rfl) ?_
        refine q_get (v := .ref (a 2)) C inX10_share_X10 hK hP 0 rfl rfl 1 (by decide) rfl LX10_share_19 rfl dX10_share_42 ?_
        refine lv_iload_n hx hb dX10_share_45 rfl (lv_at hl 1 rfl) ?_
        refine lv_iload_n hx hb dX10_share_46 rfl (lv_at hl 2 rfl) ?_
        obtain ⟨q_, s14, hc, hB⟩ := bindI_inv hB
        refine q_goi (wr := ((wG cZ cS a b b2 c0 rg sl s10.g) ++ (wD cI b2 s10.t) ++ (wD cI b s10.n))) (va_runVN (As := [.int x1, .int x2]) (rest := []) C (ckX5_oddsAt hc _) ⟨va_cnB 2 hts gX10_share_X5_oddsAt_n134 rfl rfl rfl (hN _ nwM_X10_134 rfl) (hts _ LX10_share_I_X5) (by decide +kernel) ⟨Nat.le_of_ble_eq_true rfl, Nat.le_of_ble_eq_true rfl⟩, hts _ LX10_share_N_X5_oddsAt, hts _ LX10_share_E_X5_oddsAt⟩ (q_preV hK hP (ci := 5) (q0 := 19) rfl rfl rfl (q_pre hN hK hP hD [17, 18, 19, 20, 21, 22, 23, 24, 25, 26, 27, 28, 29, 30, 31, 32, 33, 34, 35, 36, 37, 38, 39, 40, 41, 42, 43, 44, 45, 46, 47, 48, 49, 50, 51, 52, 53, 54, 55, 56, 57, 58, 59, 60, 61, 62, 63] (by first | exact zqs_0X | rfl) zqn_0)) rfl rfl hl.1 rfl (lv_room (Nat.le_of_ble_eq_true rfl)) dX10_share_47 ⟨Nat.le_of_ble_eq_true rfl, Nat.le_of_ble_eq_true rfl⟩) hP hD hS hA [17, 18, 19, 20, 21, 22, 23, 24, 25, 26, 27, 28, 29, 30, 31, 32, 33, 34, 35, 36, 37, 38, 39, 40, 41, 42, 43, 44, 45, 46, 47, 48, 49, 50, 51, 52, 53, 54, 55, 56, 57, 58, 59, 60, 61, 62, 63] [0, 1, 2, 3, 4, 5, 6, 7, 8, 9, 10, 11, 12, 13, 14, 15, 16] (by first | exact zqs_0X | rfl) (by first | exact zqs_1X | rfl) zqn_1 zqd_0 (fun r15 w1 H locs hw hP hD hS => ?_)
        obtain ⟨hq_, hw⟩ := hw; subst hw; subst hq_
        obtain ⟨s16, hs17, hB⟩ := letS_inv hB
        have hP : va_P (dC, dI) vwCl (wX cB cI cJ cZ cS a b b2 c0 rg sl s16) H := by subst hs17; exact hP
        have hD : va_D A (wX cB cI cJ cZ cS a b b2 c0 rg sl s16) := by subst hs17; exact hD
        refine lv_aload_n hx hb dX10_share_50 rfl (lv_at hl 0 rfl) ?_
        refine q_get (v := .ref (a 36)) C inX10_share_X10 hK hP 0 rfl rfl 7 (by decide) rfl LX10_share_63 rfl dX10_share_51 ?_
        refine lv_aload_n hx hb dX10_share_54 rfl (lv_at hl 0 rfl) ?_
        refine q_get (v := .ref (b 0)) C inX10_share_X10 hK hP 0 rfl rfl 3 (by decide) rfl LX10_share_35 rfl dX10_share_55 ?_
        refine lv_iload_n hx hb dX10_share_58 rfl (lv_at hl 1 rfl) ?_
        obtain ⟨q_, s18, hc, hB⟩ := bindI_inv hB
        refine q_goi (wr := ((wG cZ cS a b b2 c0 rg sl s16.g) ++ (wD cI b2 s16.t))) (va_runVN (As := [.ref (b 0), .int x1]) (rest := [.int r15]) C (ckX2_oddsOfAll hc _) ⟨va_cnB 2 hts gX10_share_X2_oddsOfAll_n203 rfl rfl rfl (hN _ nwM_X10_203 rfl) (hts _ LX10_share_I_X2) (by decide +kernel) ⟨Nat.le_of_ble_eq_true rfl, Nat.le_of_ble_eq_true rfl⟩, hts _ LX10_share_N_X2_oddsOfAll, hts _ LX10_share_E_X2_oddsOfAll⟩ (q_preV hK hP (ci := 2) (q0 := 53) rfl rfl rfl (q_pre hN hK hP hD [11, 12, 13, 14, 15, 16, 17, 18, 19, 20, 21, 22, 23, 24, 25, 26, 27, 28, 29, 30, 31, 32, 33, 34, 35, 36, 37, 38, 39, 40, 41, 42, 43, 44, 45, 46, 47, 48, 49, 50, 51, 52, 53, 54, 55, 56, 57, 58, 59, 60, 61, 62, 63] (by first | exact zqs_2X | rfl) zqn_2)) rfl rfl hl.1 rfl (lv_room (Nat.le_of_ble_eq_true rfl)) dX10_share_59 ⟨Nat.le_of_ble_eq_true rfl, Nat.le_of_ble_eq_true rfl⟩) hP hD hS hA [11, 12, 13, 14, 15, 16, 17, 18, 19, 20, 21, 22, 23, 24, 25, 26, 27, 28, 29, 30, 31, 32, 33, 34, 35, 36, 37, 38, 39, 40, 41, 42, 43, 44, 45, 46, 47, 48, 49, 50, 51, 52, 53, 54, 55, 56, 57, 58, 59, 60, 61, 62, 63] [0, 1, 2, 3, 4, 5, 6, 7, 8, 9, 10] (by first | exact zqs_2X | rfl) (by first | exact zqs_3X | rfl) zqn_3 zqd_1 (fun r19 w1 H locs hw hP hD hS => ?_)
        obtain ⟨hq_, hw⟩ := hw; subst hw; subst hq_
        obtain ⟨s20, hs21, hB⟩ := letS_inv hB
        have hP : va_P (dC, dI) vwCl (wX cB cI cJ cZ cS a b b2 c0 rg sl s20) H := by subst hs21; exact hP
        have hD : va_D A (wX cB cI cJ cZ cS a b b2 c0 rg sl s20) := by subst hs21; exact hD
        refine lv_imul hx hb dX10_share_62 ?_
        exact q_iret C hr hlocks hK hP hD hS (Nat.le_of_ble_eq_true rfl) (Nat.le_of_ble_eq_true rfl) dX10_share_63 (by cases hB; exact ⟨rfl, rfl⟩)
      · have hB := if_p hB c13
        refine lv_iconst (v := 0) hx hb dX10_share_39 (by decide) ?_
        exact q_iret C hr hlocks hK hP hD hS (Nat.le_of_ble_eq_true rfl) (Nat.le_of_ble_eq_true rfl) dX10_share_40 (by cases hB; exact ⟨rfl, rfl⟩)
    · have hB := if_p hB c7
      refine lv_iconst (v := (-1)) hx hb dX10_share_18 (by decide) ?_
      exact q_iret C hr hlocks hK hP hD hS (Nat.le_of_ble_eq_true rfl) (Nat.le_of_ble_eq_true rfl) dX10_share_19 (by cases hB; exact ⟨rfl, rfl⟩)
theorem ckX10_share {l : Launch} {dC : Nat → ClassId} {dI : Nat → Nat → Nat} {cB cI cJ cZ cS : ClassId} {a b b2 c0 : Nat → Nat} {rg sl : Nat → Option Nat} {r : Int32} {s' : XS} {s : XS} {x1 : Int32} {x2 : Int32} (hB : kX10_share s x1 x2 = some (r, s')) : CI l yX10_share wsX10_share ({ frames := 3, cells := 0, slots := 0, locals := 71 }) (dC, dI) (tysA cB cI cJ cZ cS) (wX cB cI cJ cZ cS a b b2 c0 rg sl s) [.ref (c0 0), .int x1, .int x2] (fun x u => x = r ∧ u = (wX cB cI cJ cZ cS a b b2 c0 rg sl s')) :=
  CI_of (cc := cX10_share) (maxL := 3) (ret := (some .int)) (by decide) rfl (Nat.le_of_ble_eq_true rfl) (bkX10_share _ _ _ hB)
theorem LX10_drawn_19 : Cond.fieldLink RX10 19 "GuessFerry" "sound" "LGuessFerry$Sound;" ∈ wsX10_drawn := (List.mem_cons_of_mem _ (List.mem_append_left _ (List.mem_append_left _ (List.mem_append_left _ (List.mem_append_left _ (List.mem_of_getElem? (i := 0) rfl))))))
theorem LX10_drawn_35 : Cond.fieldLink RX10 35 "GuessFerry" "now" "LGuessFerry$Standing;" ∈ wsX10_drawn := (List.mem_cons_of_mem _ (List.mem_append_left _ (List.mem_append_left _ (List.mem_append_left _ (List.mem_append_left _ (List.mem_of_getElem? (i := 1) rfl))))))
theorem LX10_drawn_E_X5_hasWave : Cond.selects RX5 yX5_hasWave yX5_hasWave ∈ wsX10_drawn := (List.mem_cons_of_mem _ (List.mem_append_left _ (List.mem_append_left _ (List.mem_append_left _ (List.mem_append_left _ (List.mem_of_getElem? (i := 4) rfl))))))
theorem LX10_drawn_E_X5_thingThere : Cond.selects RX5 yX5_thingThere yX5_thingThere ∈ wsX10_drawn := (List.mem_cons_of_mem _ (List.mem_append_left _ (List.mem_append_left _ (List.mem_append_left _ (List.mem_append_left _ (List.mem_of_getElem? (i := 6) rfl))))))
theorem LX10_drawn_I_X5 : Cond.initialized RX5 ∈ wsX10_drawn := (List.mem_cons_of_mem _ (List.mem_append_left _ (List.mem_append_left _ (List.mem_append_left _ (List.mem_append_left _ (List.mem_of_getElem? (i := 3) rfl))))))
theorem LX10_drawn_N_X5_hasWave : Cond.instanceMethod yX5_hasWave ∈ wsX10_drawn := (List.mem_cons_of_mem _ (List.mem_append_left _ (List.mem_append_left _ (List.mem_append_left _ (List.mem_append_left _ (List.mem_of_getElem? (i := 2) rfl))))))
theorem LX10_drawn_N_X5_thingThere : Cond.instanceMethod yX5_thingThere ∈ wsX10_drawn := (List.mem_cons_of_mem _ (List.mem_append_left _ (List.mem_append_left _ (List.mem_append_left _ (List.mem_append_left _ (List.mem_of_getElem? (i := 5) rfl))))))
theorem inX10_drawn_X10 : ∀ w ∈ u_ws RX10 TX10 9, w ∈ wsX10_drawn := fun w h => (List.mem_cons_of_mem _ (List.mem_append_left _ (List.mem_append_left _ (List.mem_append_right _ h))))
theorem inX10_drawn_X5 : ∀ w ∈ u_ws RX5 TX5 10, w ∈ wsX10_drawn := fun w h => (List.mem_cons_of_mem _ (List.mem_append_right _ h))
theorem inX10_drawn_X6 : ∀ w ∈ u_ws RX6 TX6 7, w ∈ wsX10_drawn := fun w h => (List.mem_cons_of_mem _ (List.mem_append_left _ (List.mem_append_right _ h)))
set_option maxHeartbeats 4000000 in
set_option maxRecDepth 100000 in
theorem bkX10_drawn_29 {l : Launch} {dC : Nat → ClassId} {dI : Nat → Nat → Nat} {cB cI cJ cZ cS : ClassId} {a b b2 c0 : Nat → Nat} {rg sl : Nat → Option Nat} {as : List Value} {r : Int32} {s' : XS} {k29 : XS → Int32 → Int32 → Int32 → Int32 → Option (Int32 × XS)} (hk29 : ∀ (s : XS) (x1 : Int32) (x2 : Int32) (x3 : Int32) (x4 : Int32), k29 s x1 x2 x3 x4 = some (r, s') → BlkI l yX10_drawn wsX10_drawn ({ frames := 3, cells := 0, slots := 0, locals := 71 }) cX10_drawn 5 (some .int) (dC, dI) (tysA cB cI cJ cZ cS) as 29 (wX cB cI cJ cZ cS a b b2 c0 rg sl s) [(0, .ref (c0 0)), (1, .int x1), (2, .int x2), (3, .int x3), (4, .int x4)] [] (fun x u => x = r ∧ u = (wX cB cI cJ cZ cS a b b2 c0 rg sl s'))) (s : XS) (x1 : Int32) (x2 : Int32) (x3 : Int32) (x4 : Int32) (hB : kX10_drawn_29 k29 s x1 x2 x3 x4 = some (r, s')) : BlkI l yX10_drawn wsX10_drawn ({ frames := 3, cells := 0, slots := 0, locals := 71 }) cX10_drawn 5 (some .int) (dC, dI) (tysA cB cI cJ cZ cS) as 29 (wX cB cI cJ cZ cS a b b2 c0 rg sl s) [(0, .ref (c0 0)), (1, .int x1), (2, .int x2), (3, .int x3), (4, .int x4)] [] (fun x u => x = r ∧ u = (wX cB cI cJ cZ cS a b b2 c0 rg sl s')) := by
  intro p e s0 m below meth c A E H locs ls hP hD hS hl
  obtain ⟨C, hr, hlocks, hA, hK, hN⟩ := id E
  obtain ⟨hx, hb, hml, hown, hts⟩ := id C
  unfold kX10_drawn_29 at hB
  refine lv_iload hx hb dX10_drawn_29 (lv_at hl 4 rfl) ?_
  refine lv_iload_n hx hb dX10_drawn_31 rfl (lv_at hl 2 rfl) ?_
  refine lv_icmp_ge (tgt := 73) hx hb dX10_drawn_32 (by decide) (fun c1 => ?_) (fun c1 => ?_)
  · have hB := if_p hB c1
    refine lv_iload_n hx hb dX10_drawn_73 rfl (lv_at hl 3 rfl) ?_
    obtain ⟨q_, hc, hB⟩ := bindP_inv hB
    refine q_goi0 (va_runS (As := [.int x3]) (rest := []) C (ckJ6_bitCount_0f7a4 hc _) (va_cwS 1 hts gX10_drawn_J6_bitCount_0f7a4 rfl rfl rfl (by decide +kernel) ⟨Nat.le_of_ble_eq_true rfl, Nat.le_of_ble_eq_true rfl⟩) (q_pre0 hN hK) rfl rfl hl.1 rfl (lv_room (Nat.le_of_ble_eq_true rfl)) dX10_drawn_74 ⟨Nat.le_of_ble_eq_true rfl, Nat.le_of_ble_eq_true rfl⟩) hP hD hS hA (fun r2 w1 H locs hw hP hS => ?_)
    subst hw
    exact q_iret C hr hlocks hK hP hD hS (Nat.le_of_ble_eq_true rfl) (Nat.le_of_ble_eq_true rfl) dX10_drawn_77 (by cases hB; exact ⟨rfl, rfl⟩)
  · have hB := if_n hB c1
    refine lv_iload_n hx hb dX10_drawn_35 rfl (lv_at hl 3 rfl) ?_
    refine lv_iconst (v := 1) hx hb dX10_drawn_36 (by decide) ?_
    refine lv_aload_n hx hb dX10_drawn_37 rfl (lv_at hl 0 rfl) ?_
    refine q_get (v := .ref (a 2)) C inX10_drawn_X10 hK hP 0 rfl rfl 1 (by decide) rfl LX10_drawn_19 rfl dX10_drawn_38 ?_
    refine lv_iload_n hx hb dX10_drawn_41 rfl (lv_at hl 1 rfl) ?_
    refine lv_aload_n hx hb dX10_drawn_42 rfl (lv_at hl 0 rfl) ?_
    refine q_get (v := .ref (b 0)) C inX10_drawn_X10 hK hP 0 rfl rfl 3 (by decide) rfl LX10_drawn_35 rfl dX10_drawn_43 ?_
    refine q_getN (v := .ref (b 3)) C hN inX10_drawn_X6 hK hP 11 rfl rfl 2 (by decide) rfl nwF_X10_122 rfl dX10_drawn_46 ?_
    refine lv_iload_n hx hb dX10_drawn_49 rfl (lv_at hl 1 rfl) ?_
    obtain ⟨g3, hB⟩ := guard_inv hB
    refine q_iald (x := ((s.n.f 2) (Int32.toNatClampNeg x1))) C hK hP 14 1 rfl rfl (vpb_in g3) dX10_drawn_50 rfl ?_
    refine lv_aload_n hx hb dX10_drawn_51 rfl (lv_at hl 0 rfl) ?_
    refine q_get (v := .ref (a 2)) C inX10_drawn_X10 hK hP 0 rfl rfl 1 (by decide) rfl LX10_drawn_19 rfl dX10_drawn_52 ?_
    refine q_getN (v := .int (s.k.v 4)) C hN inX10_drawn_X5 hK hP 19 rfl rfl 9 (by decide) rfl nwF_X10_253 rfl dX10_drawn_55 ?_
    refine lv_iload hx hb dX10_drawn_58 (lv_at hl 4 rfl) ?_
    refine lv_iadd hx hb dX10_drawn_60 ?_
    obtain ⟨q_, s4, hc, hB⟩ := bindI_inv hB
    refine q_goi (wr := ((wG cZ cS a b b2 c0 rg sl s.g) ++ (wD cI b2 s.t) ++ (wD cI b s.n))) (va_runVN (As := [.int x1, .int ((s.n.f 2) (Int32.toNatClampNeg x1)), .int ((s.k.v 4) + x4)]) (rest := [.int 1, .int x3]) C (ckX5_thingThere hc _) ⟨va_cnB 3 hts gX10_drawn_X5_thingThere_n259 rfl rfl rfl (hN _ nwM_X10_259 rfl) (hts _ LX10_drawn_I_X5) (by decide +kernel) ⟨Nat.le_of_ble_eq_true rfl, Nat.le_of_ble_eq_true rfl⟩, hts _ LX10_drawn_N_X5_thingThere, hts _ LX10_drawn_E_X5_thingThere⟩ (q_preV hK hP (ci := 5) (q0 := 19) rfl rfl rfl (q_pre hN hK hP hD [17, 18, 19, 20, 21, 22, 23, 24, 25, 26, 27, 28, 29, 30, 31, 32, 33, 34, 35, 36, 37, 38, 39, 40, 41, 42, 43, 44, 45, 46, 47, 48, 49, 50, 51, 52, 53, 54, 55, 56, 57, 58, 59, 60, 61, 62, 63] (by first | exact zqs_0X | rfl) zqn_0)) rfl rfl hl.1 rfl (lv_room (Nat.le_of_ble_eq_true rfl)) dX10_drawn_61 ⟨Nat.le_of_ble_eq_true rfl, Nat.le_of_ble_eq_true rfl⟩) hP hD hS hA [17, 18, 19, 20, 21, 22, 23, 24, 25, 26, 27, 28, 29, 30, 31, 32, 33, 34, 35, 36, 37, 38, 39, 40, 41, 42, 43, 44, 45, 46, 47, 48, 49, 50, 51, 52, 53, 54, 55, 56, 57, 58, 59, 60, 61, 62, 63] [0, 1, 2, 3, 4, 5, 6, 7, 8, 9, 10, 11, 12, 13, 14, 15, 16] (by first | exact zqs_0X | rfl) (by first | exact zqs_1X | rfl) zqn_1 zqd_0 (fun r5 w1 H locs hw hP hD hS => ?_)
    obtain ⟨hq_, hw⟩ := hw; subst hw; subst hq_
    obtain ⟨s6, hs7, hB⟩ := letS_inv hB
    have hP : va_P (dC, dI) vwCl (wX cB cI cJ cZ cS a b b2 c0 rg sl s6) H := by subst hs7; exact hP
    have hD : va_D A (wX cB cI cJ cZ cS a b b2 c0 rg sl s6) := by subst hs7; exact hD
    refine lv_ishl hx hb dX10_drawn_64 ?_
    refine lv_ior hx hb dX10_drawn_65 ?_
    refine lv_istore_n (lv' := [(3, .int (x3 ||| (1 <<< (r5 &&& 31)))), (0, .ref (c0 0)), (1, .int x1), (2, .int x2), (4, .int x4)]) hx hb dX10_drawn_66 rfl hl (by decide) rfl (fun ls hl => ?_)
    refine lv_iinc (v := (x4 + 1)) (lv' := [(4, .int (x4 + 1)), (3, .int (x3 ||| (1 <<< (r5 &&& 31)))), (0, .ref (c0 0)), (1, .int x1), (2, .int x2)]) hx hb dX10_drawn_67 hl (k := 4) rfl (rfl) (by decide) rfl (fun ls hl => ?_)
    refine lv_goto (tgt := 29) hx hb dX10_drawn_70 (by decide) ?_
    exact hk29 _ _ _ _ _ hB p e s0 m below meth c A E H locs ls hP hD hS (lv_sub hl [2, 3, 4, 1, 0] rfl)
theorem bkX10_drawn_29L {l : Launch} {dC : Nat → ClassId} {dI : Nat → Nat → Nat} {cB cI cJ cZ cS : ClassId} {a b b2 c0 : Nat → Nat} {rg sl : Nat → Option Nat} {as : List Value} {r : Int32} {s' : XS} : ∀ (n : Nat) (s : XS) (x1 : Int32) (x2 : Int32) (x3 : Int32) (x4 : Int32), kX10_drawn_29L n s x1 x2 x3 x4 = some (r, s') → BlkI l yX10_drawn wsX10_drawn ({ frames := 3, cells := 0, slots := 0, locals := 71 }) cX10_drawn 5 (some .int) (dC, dI) (tysA cB cI cJ cZ cS) as 29 (wX cB cI cJ cZ cS a b b2 c0 rg sl s) [(0, .ref (c0 0)), (1, .int x1), (2, .int x2), (3, .int x3), (4, .int x4)] [] (fun x u => x = r ∧ u = (wX cB cI cJ cZ cS a b b2 c0 rg sl s')) := by
  intro n
  induction n with
  | zero => intro s x1 x2 x3 x4 hB; exact none_ne hB
  | succ n ih => intro s x1 x2 x3 x4 hB; exact bkX10_drawn_29 ih _ _ _ _ _ hB
set_option maxHeartbeats 4000000 in
set_option maxRecDepth 100000 in
theorem bkX10_drawn {l : Launch} {dC : Nat → ClassId} {dI : Nat → Nat → Nat} {cB cI cJ cZ cS : ClassId} {a b b2 c0 : Nat → Nat} {rg sl : Nat → Option Nat} {as : List Value} {r : Int32} {s' : XS} (s : XS) (x1 : Int32) (x2 : Int32) (hB : kX10_drawn s x1 x2 = some (r, s')) : BlkI l yX10_drawn wsX10_drawn ({ frames := 3, cells := 0, slots := 0, locals := 71 }) cX10_drawn 5 (some .int) (dC, dI) (tysA cB cI cJ cZ cS) as 0 (wX cB cI cJ cZ cS a b b2 c0 rg sl s) [(0, .ref (c0 0)), (1, .int x1), (2, .int x2)] [] (fun x u => x = r ∧ u = (wX cB cI cJ cZ cS a b b2 c0 rg sl s')) := by
  intro p e s0 m below meth c A E H locs ls hP hD hS hl
  obtain ⟨C, hr, hlocks, hA, hK, hN⟩ := id E
  obtain ⟨hx, hb, hml, hown, hts⟩ := id C
  unfold kX10_drawn at hB
  refine lv_aload_n hx hb dX10_drawn_0 rfl (lv_at hl 0 rfl) ?_
  refine q_get (v := .ref (a 2)) C inX10_drawn_X10 hK hP 0 rfl rfl 1 (by decide) rfl LX10_drawn_19 rfl dX10_drawn_1 ?_
  refine lv_iload_n hx hb dX10_drawn_4 rfl (lv_at hl 1 rfl) ?_
  obtain ⟨q_, s1, hc, hB⟩ := bindI_inv hB
  refine q_goi (wr := ((wG cZ cS a b b2 c0 rg sl s.g) ++ (wD cI b2 s.t) ++ (wD cI b s.n))) (va_runVN (As := [.int x1]) (rest := []) C (ckX5_hasWave hc _) ⟨va_cnB 1 hts gX10_drawn_X5_hasWave_n108 rfl rfl rfl (hN _ nwM_X10_108 rfl) (hts _ LX10_drawn_I_X5) (by decide +kernel) ⟨Nat.le_of_ble_eq_true rfl, Nat.le_of_ble_eq_true rfl⟩, hts _ LX10_drawn_N_X5_hasWave, hts _ LX10_drawn_E_X5_hasWave⟩ (q_preV hK hP (ci := 5) (q0 := 19) rfl rfl rfl (q_pre hN hK hP hD [17, 18, 19, 20, 21, 22, 23, 24, 25, 26, 27, 28, 29, 30, 31, 32, 33, 34, 35, 36, 37, 38, 39, 40, 41, 42, 43, 44, 45, 46, 47, 48, 49, 50, 51, 52, 53, 54, 55, 56, 57, 58, 59, 60, 61, 62, 63] (by first | exact zqs_0X | rfl) zqn_0)) rfl rfl hl.1 rfl (lv_room (Nat.le_of_ble_eq_true rfl)) dX10_drawn_5 ⟨Nat.le_of_ble_eq_true rfl, Nat.le_of_ble_eq_true rfl⟩) hP hD hS hA [17, 18, 19, 20, 21, 22, 23, 24, 25, 26, 27, 28, 29, 30, 31, 32, 33, 34, 35, 36, 37, 38, 39, 40, 41, 42, 43, 44, 45, 46, 47, 48, 49, 50, 51, 52, 53, 54, 55, 56, 57, 58, 59, 60, 61, 62, 63] [0, 1, 2, 3, 4, 5, 6, 7, 8, 9, 10, 11, 12, 13, 14, 15, 16] (by first | exact zqs_0X | rfl) (by first | exact zqs_1X | rfl) zqn_1 zqd_0 (fun r2 w1 H locs hw hP hD hS => ?_)
  obtain ⟨hq_, hw⟩ := hw; subst hw; subst hq_
  obtain ⟨s3, hs4, hB⟩ := letS_inv hB
  have hP : va_P (dC, dI) vwCl (wX cB cI cJ cZ cS a b b2 c0 rg sl s3) H := by subst hs4; exact hP
  have hD : va_D A (wX cB cI cJ cZ cS a b b2 c0 rg sl s3) := by subst hs4; exact hD
  refine lv_if_eq (tgt := 22) hx hb dX10_drawn_8 (by decide) (fun c5 => ?_) (fun c5 => ?_)
  · have hB := if_p hB c5
    refine lv_iconst (v := (-1)) hx hb dX10_drawn_22 (by decide) ?_
    exact q_iret C hr hlocks hK hP hD hS (Nat.le_of_ble_eq_true rfl) (Nat.le_of_ble_eq_true rfl) dX10_drawn_23 (by cases hB; exact ⟨rfl, rfl⟩)
  · have hB := if_n hB c5
    refine lv_iload_n hx hb dX10_drawn_11 rfl (lv_at hl 2 rfl) ?_
    refine lv_iconst (v := 1) hx hb dX10_drawn_12 (by decide) ?_
    refine lv_icmp_lt (tgt := 22) hx hb dX10_drawn_13 (by decide) (fun c6 => ?_) (fun c6 => ?_)
    · have hB := if_p hB c6
      refine lv_iconst (v := (-1)) hx hb dX10_drawn_22 (by decide) ?_
      exact q_iret C hr hlocks hK hP hD hS (Nat.le_of_ble_eq_true rfl) (Nat.le_of_ble_eq_true rfl) dX10_drawn_23 (by cases hB; exact ⟨rfl, rfl⟩)
    · have hB := if_n hB c6
      refine lv_iload_n hx hb dX10_drawn_16 rfl (lv_at hl 2 rfl) ?_
      refine lv_bipush (v := 20) hx hb dX10_drawn_17 (by decide) ?_
      refine lv_icmp_le (tgt := 24) hx hb dX10_drawn_19 (by decide) (fun c7 => ?_) (fun c7 => ?_)
      · have hB := if_p hB c7
        refine lv_iconst (v := 0) hx hb dX10_drawn_24 (by decide) ?_
        refine lv_istore_n (lv' := [(3, .int 0), (0, .ref (c0 0)), (1, .int x1), (2, .int x2)]) hx hb dX10_drawn_25 rfl hl (by decide) rfl (fun ls hl => ?_)
        refine lv_iconst (v := 0) hx hb dX10_drawn_26 (by decide) ?_
        refine lv_istore (lv' := [(4, .int 0), (3, .int 0), (0, .ref (c0 0)), (1, .int x1), (2, .int x2)]) hx hb dX10_drawn_27 hl (by decide) rfl (fun ls hl => ?_)
        exact bkX10_drawn_29L fu _ _ _ _ _ hB p e s0 m below meth c A E H locs ls hP hD hS (lv_sub hl [2, 3, 4, 1, 0] rfl)
      · have hB := if_n hB c7
        refine lv_iconst (v := (-1)) hx hb dX10_drawn_22 (by decide) ?_
        exact q_iret C hr hlocks hK hP hD hS (Nat.le_of_ble_eq_true rfl) (Nat.le_of_ble_eq_true rfl) dX10_drawn_23 (by cases hB; exact ⟨rfl, rfl⟩)
theorem ckX10_drawn {l : Launch} {dC : Nat → ClassId} {dI : Nat → Nat → Nat} {cB cI cJ cZ cS : ClassId} {a b b2 c0 : Nat → Nat} {rg sl : Nat → Option Nat} {r : Int32} {s' : XS} {s : XS} {x1 : Int32} {x2 : Int32} (hB : kX10_drawn s x1 x2 = some (r, s')) : CI l yX10_drawn wsX10_drawn ({ frames := 3, cells := 0, slots := 0, locals := 71 }) (dC, dI) (tysA cB cI cJ cZ cS) (wX cB cI cJ cZ cS a b b2 c0 rg sl s) [.ref (c0 0), .int x1, .int x2] (fun x u => x = r ∧ u = (wX cB cI cJ cZ cS a b b2 c0 rg sl s')) :=
  CI_of (cc := cX10_drawn) (maxL := 5) (ret := (some .int)) (by decide) rfl (Nat.le_of_ble_eq_true rfl) (bkX10_drawn _ _ _ hB)
theorem LX10_fit_35 : Cond.fieldLink RX10 35 "GuessFerry" "now" "LGuessFerry$Standing;" ∈ wsX10_fit := (List.mem_cons_of_mem _ (List.mem_append_left _ (List.mem_append_left _ (List.mem_append_left _ (List.mem_append_left _ (List.mem_append_left _ (List.mem_append_left _ (List.mem_of_getElem? (i := 1) rfl))))))))
theorem LX10_fit_70 : Cond.fieldLink RX10 70 "GuessFerry" "tellers" "LGuessFerry$Tellers;" ∈ wsX10_fit := (List.mem_cons_of_mem _ (List.mem_append_left _ (List.mem_append_left _ (List.mem_append_left _ (List.mem_append_left _ (List.mem_append_left _ (List.mem_append_left _ (List.mem_of_getElem? (i := 0) rfl))))))))
theorem LX10_fit_E_X8_areSuch : Cond.selects RX8 yX8_areSuch yX8_areSuch ∈ wsX10_fit := (List.mem_cons_of_mem _ (List.mem_append_left _ (List.mem_append_left _ (List.mem_append_left _ (List.mem_append_left _ (List.mem_append_left _ (List.mem_append_left _ (List.mem_of_getElem? (i := 4) rfl))))))))
theorem LX10_fit_E_X8_believe : Cond.selects RX8 yX8_believe yX8_believe ∈ wsX10_fit := (List.mem_cons_of_mem _ (List.mem_append_left _ (List.mem_append_left _ (List.mem_append_left _ (List.mem_append_left _ (List.mem_append_left _ (List.mem_append_left _ (List.mem_of_getElem? (i := 6) rfl))))))))
theorem LX10_fit_E_X8_fitting : Cond.selects RX8 yX8_fitting yX8_fitting ∈ wsX10_fit := (List.mem_cons_of_mem _ (List.mem_append_left _ (List.mem_append_left _ (List.mem_append_left _ (List.mem_append_left _ (List.mem_append_left _ (List.mem_append_left _ (List.mem_of_getElem? (i := 8) rfl))))))))
theorem LX10_fit_I_X8 : Cond.initialized RX8 ∈ wsX10_fit := (List.mem_cons_of_mem _ (List.mem_append_left _ (List.mem_append_left _ (List.mem_append_left _ (List.mem_append_left _ (List.mem_append_left _ (List.mem_append_left _ (List.mem_of_getElem? (i := 3) rfl))))))))
theorem LX10_fit_N_X8_areSuch : Cond.instanceMethod yX8_areSuch ∈ wsX10_fit := (List.mem_cons_of_mem _ (List.mem_append_left _ (List.mem_append_left _ (List.mem_append_left _ (List.mem_append_left _ (List.mem_append_left _ (List.mem_append_left _ (List.mem_of_getElem? (i := 2) rfl))))))))
theorem LX10_fit_N_X8_believe : Cond.instanceMethod yX8_believe ∈ wsX10_fit := (List.mem_cons_of_mem _ (List.mem_append_left _ (List.mem_append_left _ (List.mem_append_left _ (List.mem_append_left _ (List.mem_append_left _ (List.mem_append_left _ (List.mem_of_getElem? (i := 5) rfl))))))))
theorem LX10_fit_N_X8_fitting : Cond.instanceMethod yX8_fitting ∈ wsX10_fit := (List.mem_cons_of_mem _ (List.mem_append_left _ (List.mem_append_left _ (List.mem_append_left _ (List.mem_append_left _ (List.mem_append_left _ (List.mem_append_left _ (List.mem_of_getElem? (i := 7) rfl))))))))
theorem inX10_fit_X10 : ∀ w ∈ u_ws RX10 TX10 9, w ∈ wsX10_fit := fun w h => (List.mem_cons_of_mem _ (List.mem_append_left _ (List.mem_append_left _ (List.mem_append_left _ (List.mem_append_left _ (List.mem_append_right _ h))))))
set_option maxHeartbeats 4000000 in
set_option maxRecDepth 100000 in
theorem bkX10_fit_50 {l : Launch} {dC : Nat → ClassId} {dI : Nat → Nat → Nat} {cB cI cJ cZ cS : ClassId} {a b b2 c0 : Nat → Nat} {rg sl : Nat → Option Nat} {as : List Value} {r : Int32} {s' : XS} (s : XS) (t0 : Int32) (t1 : Int32) (hB : kX10_fit_50 s t0 t1 = some (r, s')) : BlkI l yX10_fit wsX10_fit ({ frames := 3, cells := 0, slots := 0, locals := 72 }) cX10_fit 4 (some .int) (dC, dI) (tysA cB cI cJ cZ cS) as 50 (wX cB cI cJ cZ cS a b b2 c0 rg sl s) [] [.int t0, .int t1, .ref (a 41)] (fun x u => x = r ∧ u = (wX cB cI cJ cZ cS a b b2 c0 rg sl s')) := by
  intro p e s0 m below meth c A E H locs ls hP hD hS hl
  obtain ⟨C, hr, hlocks, hA, hK, hN⟩ := id E
  obtain ⟨hx, hb, hml, hown, hts⟩ := id C
  unfold kX10_fit_50 at hB
  obtain ⟨q_, s1, hc, hB⟩ := bindI_inv hB
  refine q_goi (wr := ((wG cZ cS a b b2 c0 rg sl s.g) ++ (wD cI b2 s.t) ++ (wD cI b s.n))) (va_runVN (As := [.int t1, .int t0]) (rest := []) C (ckX8_fitting hc _) ⟨va_cnB 2 hts gX10_fit_X8_fitting_n272 rfl rfl rfl (hN _ nwM_X10_272 rfl) (hts _ LX10_fit_I_X8) (by decide +kernel) ⟨Nat.le_of_ble_eq_true rfl, Nat.le_of_ble_eq_true rfl⟩, hts _ LX10_fit_N_X8_fitting, hts _ LX10_fit_E_X8_fitting⟩ (q_preV hK hP (ci := 8) (q0 := 58) rfl rfl rfl (q_pre hN hK hP hD [17, 18, 19, 20, 21, 22, 23, 24, 25, 26, 27, 28, 29, 30, 31, 32, 33, 34, 35, 36, 37, 38, 39, 40, 41, 42, 43, 44, 45, 46, 47, 48, 49, 50, 51, 52, 53, 54, 55, 56, 57, 58, 59, 60, 61, 62, 63] (by first | exact zqs_0X | rfl) zqn_0)) rfl rfl hl.1 rfl (lv_room (Nat.le_of_ble_eq_true rfl)) dX10_fit_50 ⟨Nat.le_of_ble_eq_true rfl, Nat.le_of_ble_eq_true rfl⟩) hP hD hS hA [17, 18, 19, 20, 21, 22, 23, 24, 25, 26, 27, 28, 29, 30, 31, 32, 33, 34, 35, 36, 37, 38, 39, 40, 41, 42, 43, 44, 45, 46, 47, 48, 49, 50, 51, 52, 53, 54, 55, 56, 57, 58, 59, 60, 61, 62, 63] [0, 1, 2, 3, 4, 5, 6, 7, 8, 9, 10, 11, 12, 13, 14, 15, 16] (by first | exact zqs_0X | rfl) (by first | exact zqs_1X | rfl) zqn_1 zqd_0 (fun r2 w1 H locs hw hP hD hS => ?_)
  obtain ⟨hq_, hw⟩ := hw; subst hw; subst hq_
  obtain ⟨s3, hs4, hB⟩ := letS_inv hB
  have hP : va_P (dC, dI) vwCl (wX cB cI cJ cZ cS a b b2 c0 rg sl s3) H := by subst hs4; exact hP
  have hD : va_D A (wX cB cI cJ cZ cS a b b2 c0 rg sl s3) := by subst hs4; exact hD
  exact q_iret C hr hlocks hK hP hD hS (Nat.le_of_ble_eq_true rfl) (Nat.le_of_ble_eq_true rfl) dX10_fit_53 (by cases hB; exact ⟨rfl, rfl⟩)
set_option maxHeartbeats 4000000 in
set_option maxRecDepth 100000 in
theorem bkX10_fit {l : Launch} {dC : Nat → ClassId} {dI : Nat → Nat → Nat} {cB cI cJ cZ cS : ClassId} {a b b2 c0 : Nat → Nat} {rg sl : Nat → Option Nat} {as : List Value} {r : Int32} {s' : XS} (s : XS) (x1 : Int32) (x2 : Int32) (x3 : Int32) (hB : kX10_fit s x1 x2 x3 = some (r, s')) : BlkI l yX10_fit wsX10_fit ({ frames := 3, cells := 0, slots := 0, locals := 72 }) cX10_fit 4 (some .int) (dC, dI) (tysA cB cI cJ cZ cS) as 0 (wX cB cI cJ cZ cS a b b2 c0 rg sl s) [(0, .ref (c0 0)), (1, .int x1), (2, .int x2), (3, .int x3)] [] (fun x u => x = r ∧ u = (wX cB cI cJ cZ cS a b b2 c0 rg sl s')) := by
  intro p e s0 m below meth c A E H locs ls hP hD hS hl
  obtain ⟨C, hr, hlocks, hA, hK, hN⟩ := id E
  obtain ⟨hx, hb, hml, hown, hts⟩ := id C
  unfold kX10_fit at hB
  refine lv_aload_n hx hb dX10_fit_0 rfl (lv_at hl 0 rfl) ?_
  refine q_get (v := .ref (a 41)) C inX10_fit_X10 hK hP 0 rfl rfl 8 (by decide) rfl LX10_fit_70 rfl dX10_fit_1 ?_
  refine lv_iload_n hx hb dX10_fit_4 rfl (lv_at hl 1 rfl) ?_
  refine lv_iload_n hx hb dX10_fit_5 rfl (lv_at hl 2 rfl) ?_
  obtain ⟨q_, s1, hc, hB⟩ := bindI_inv hB
  refine q_goi (wr := ((wG cZ cS a b b2 c0 rg sl s.g) ++ (wD cI b2 s.t) ++ (wD cI b s.n))) (va_runVN (As := [.int x1, .int x2]) (rest := []) C (ckX8_areSuch hc _) ⟨va_cnB 2 hts gX10_fit_X8_areSuch_n266 rfl rfl rfl (hN _ nwM_X10_266 rfl) (hts _ LX10_fit_I_X8) (by decide +kernel) ⟨Nat.le_of_ble_eq_true rfl, Nat.le_of_ble_eq_true rfl⟩, hts _ LX10_fit_N_X8_areSuch, hts _ LX10_fit_E_X8_areSuch⟩ (q_preV hK hP (ci := 8) (q0 := 58) rfl rfl rfl (q_pre hN hK hP hD [17, 18, 19, 20, 21, 22, 23, 24, 25, 26, 27, 28, 29, 30, 31, 32, 33, 34, 35, 36, 37, 38, 39, 40, 41, 42, 43, 44, 45, 46, 47, 48, 49, 50, 51, 52, 53, 54, 55, 56, 57, 58, 59, 60, 61, 62, 63] (by first | exact zqs_0X | rfl) zqn_0)) rfl rfl hl.1 rfl (lv_room (Nat.le_of_ble_eq_true rfl)) dX10_fit_6 ⟨Nat.le_of_ble_eq_true rfl, Nat.le_of_ble_eq_true rfl⟩) hP hD hS hA [17, 18, 19, 20, 21, 22, 23, 24, 25, 26, 27, 28, 29, 30, 31, 32, 33, 34, 35, 36, 37, 38, 39, 40, 41, 42, 43, 44, 45, 46, 47, 48, 49, 50, 51, 52, 53, 54, 55, 56, 57, 58, 59, 60, 61, 62, 63] [0, 1, 2, 3, 4, 5, 6, 7, 8, 9, 10, 11, 12, 13, 14, 15, 16] (by first | exact zqs_0X | rfl) (by first | exact zqs_1X | rfl) zqn_1 zqd_0 (fun r2 w1 H locs hw hP hD hS => ?_)
  obtain ⟨hq_, hw⟩ := hw; subst hw; subst hq_
  obtain ⟨s3, hs4, hB⟩ := letS_inv hB
  have hP : va_P (dC, dI) vwCl (wX cB cI cJ cZ cS a b b2 c0 rg sl s3) H := by subst hs4; exact hP
  have hD : va_D A (wX cB cI cJ cZ cS a b b2 c0 rg sl s3) := by subst hs4; exact hD
  refine lv_if_eq (tgt := 21) hx hb dX10_fit_9 (by decide) (fun c5 => ?_) (fun c5 => ?_)
  · have hB := if_p hB c5
    refine lv_iconst (v := (-1)) hx hb dX10_fit_21 (by decide) ?_
    exact q_iret C hr hlocks hK hP hD hS (Nat.le_of_ble_eq_true rfl) (Nat.le_of_ble_eq_true rfl) dX10_fit_22 (by cases hB; exact ⟨rfl, rfl⟩)
  · have hB := if_n hB c5
    refine lv_iload_n hx hb dX10_fit_12 rfl (lv_at hl 3 rfl) ?_
    refine lv_if_lt (tgt := 21) hx hb dX10_fit_13 (by decide) (fun c6 => ?_) (fun c6 => ?_)
    · have hB := if_p hB c6
      refine lv_iconst (v := (-1)) hx hb dX10_fit_21 (by decide) ?_
      exact q_iret C hr hlocks hK hP hD hS (Nat.le_of_ble_eq_true rfl) (Nat.le_of_ble_eq_true rfl) dX10_fit_22 (by cases hB; exact ⟨rfl, rfl⟩)
    · have hB := if_n hB c6
      refine lv_iload_n hx hb dX10_fit_16 rfl (lv_at hl 3 rfl) ?_
      refine lv_iconst (v := 1) hx hb dX10_fit_17 (by decide) ?_
      refine lv_icmp_le (tgt := 23) hx hb dX10_fit_18 (by decide) (fun c7 => ?_) (fun c7 => ?_)
      · have hB := if_p hB c7
        refine lv_aload_n hx hb dX10_fit_23 rfl (lv_at hl 0 rfl) ?_
        refine q_get (v := .ref (a 41)) C inX10_fit_X10 hK hP 0 rfl rfl 8 (by decide) rfl LX10_fit_70 rfl dX10_fit_24 ?_
        refine lv_aload_n hx hb dX10_fit_27 rfl (lv_at hl 0 rfl) ?_
        refine q_get (v := .ref (b 0)) C inX10_fit_X10 hK hP 0 rfl rfl 3 (by decide) rfl LX10_fit_35 rfl dX10_fit_28 ?_
        refine lv_iload_n hx hb dX10_fit_31 rfl (lv_at hl 1 rfl) ?_
        obtain ⟨s8, hc, hB⟩ := bindP_inv hB
        refine q_gov (wr := ((wG cZ cS a b b2 c0 rg sl s3.g) ++ (wD cI b2 s3.t))) (va_runVN (As := [.ref (b 0), .int x1]) (rest := []) C (ckX8_believe hc _) ⟨va_cnB 2 hts gX10_fit_X8_believe_n269 rfl rfl rfl (hN _ nwM_X10_269 rfl) (hts _ LX10_fit_I_X8) (by decide +kernel) ⟨Nat.le_of_ble_eq_true rfl, Nat.le_of_ble_eq_true rfl⟩, hts _ LX10_fit_N_X8_believe, hts _ LX10_fit_E_X8_believe⟩ (q_preV hK hP (ci := 8) (q0 := 58) rfl rfl rfl (q_pre hN hK hP hD [11, 12, 13, 14, 15, 16, 17, 18, 19, 20, 21, 22, 23, 24, 25, 26, 27, 28, 29, 30, 31, 32, 33, 34, 35, 36, 37, 38, 39, 40, 41, 42, 43, 44, 45, 46, 47, 48, 49, 50, 51, 52, 53, 54, 55, 56, 57, 58, 59, 60, 61, 62, 63] (by first | exact zqs_2X | rfl) zqn_2)) rfl rfl hl.1 rfl (lv_room (Nat.le_of_ble_eq_true rfl)) dX10_fit_32 ⟨Nat.le_of_ble_eq_true rfl, Nat.le_of_ble_eq_true rfl⟩) hP hD hS hA [11, 12, 13, 14, 15, 16, 17, 18, 19, 20, 21, 22, 23, 24, 25, 26, 27, 28, 29, 30, 31, 32, 33, 34, 35, 36, 37, 38, 39, 40, 41, 42, 43, 44, 45, 46, 47, 48, 49, 50, 51, 52, 53, 54, 55, 56, 57, 58, 59, 60, 61, 62, 63] [0, 1, 2, 3, 4, 5, 6, 7, 8, 9, 10] (by first | exact zqs_2X | rfl) (by first | exact zqs_3X | rfl) zqn_3 zqd_1 (fun w1 H locs hw hP hD hS => ?_)
        subst hw
        obtain ⟨s9, hs10, hB⟩ := letS_inv hB
        have hP : va_P (dC, dI) vwCl (wX cB cI cJ cZ cS a b b2 c0 rg sl s9) H := by subst hs10; exact hP
        have hD : va_D A (wX cB cI cJ cZ cS a b b2 c0 rg sl s9) := by subst hs10; exact hD
        refine lv_aload_n hx hb dX10_fit_35 rfl (lv_at hl 0 rfl) ?_
        refine q_get (v := .ref (a 41)) C inX10_fit_X10 hK hP 0 rfl rfl 8 (by decide) rfl LX10_fit_70 rfl dX10_fit_36 ?_
        refine lv_iload_n hx hb dX10_fit_39 rfl (lv_at hl 2 rfl) ?_
        refine lv_iload_n hx hb dX10_fit_40 rfl (lv_at hl 3 rfl) ?_
        refine lv_iconst (v := 1) hx hb dX10_fit_41 (by decide) ?_
        refine lv_icmp_ne (tgt := 49) hx hb dX10_fit_42 (by decide) (fun c11 => ?_) (fun c11 => ?_)
        · have hB := if_n hB c11
          refine lv_iconst (v := 0) hx hb dX10_fit_49 (by decide) ?_
          exact bkX10_fit_50 _ _ _ hB p e s0 m below meth c A E H locs ls hP hD hS (lv_sub hl [] rfl)
        · have hB := if_p hB c11
          refine lv_iconst (v := 1) hx hb dX10_fit_45 (by decide) ?_
          refine lv_goto (tgt := 50) hx hb dX10_fit_46 (by decide) ?_
          exact bkX10_fit_50 _ _ _ hB p e s0 m below meth c A E H locs ls hP hD hS (lv_sub hl [] rfl)
      · have hB := if_n hB c7
        refine lv_iconst (v := (-1)) hx hb dX10_fit_21 (by decide) ?_
        exact q_iret C hr hlocks hK hP hD hS (Nat.le_of_ble_eq_true rfl) (Nat.le_of_ble_eq_true rfl) dX10_fit_22 (by cases hB; exact ⟨rfl, rfl⟩)
theorem ckX10_fit {l : Launch} {dC : Nat → ClassId} {dI : Nat → Nat → Nat} {cB cI cJ cZ cS : ClassId} {a b b2 c0 : Nat → Nat} {rg sl : Nat → Option Nat} {r : Int32} {s' : XS} {s : XS} {x1 : Int32} {x2 : Int32} {x3 : Int32} (hB : kX10_fit s x1 x2 x3 = some (r, s')) : CI l yX10_fit wsX10_fit ({ frames := 3, cells := 0, slots := 0, locals := 72 }) (dC, dI) (tysA cB cI cJ cZ cS) (wX cB cI cJ cZ cS a b b2 c0 rg sl s) [.ref (c0 0), .int x1, .int x2, .int x3] (fun x u => x = r ∧ u = (wX cB cI cJ cZ cS a b b2 c0 rg sl s')) :=
  CI_of (cc := cX10_fit) (maxL := 4) (ret := (some .int)) (by decide) rfl (Nat.le_of_ble_eq_true rfl) (bkX10_fit _ _ _ _ hB)
theorem LX10_lie_35 : Cond.fieldLink RX10 35 "GuessFerry" "now" "LGuessFerry$Standing;" ∈ wsX10_lie := (List.mem_cons_of_mem _ (List.mem_append_left _ (List.mem_append_left _ (List.mem_append_left _ (List.mem_append_left _ (List.mem_append_left _ (List.mem_append_left _ (List.mem_of_getElem? (i := 1) rfl))))))))
theorem LX10_lie_70 : Cond.fieldLink RX10 70 "GuessFerry" "tellers" "LGuessFerry$Tellers;" ∈ wsX10_lie := (List.mem_cons_of_mem _ (List.mem_append_left _ (List.mem_append_left _ (List.mem_append_left _ (List.mem_append_left _ (List.mem_append_left _ (List.mem_append_left _ (List.mem_of_getElem? (i := 0) rfl))))))))
theorem LX10_lie_E_X8_areSuch : Cond.selects RX8 yX8_areSuch yX8_areSuch ∈ wsX10_lie := (List.mem_cons_of_mem _ (List.mem_append_left _ (List.mem_append_left _ (List.mem_append_left _ (List.mem_append_left _ (List.mem_append_left _ (List.mem_append_left _ (List.mem_of_getElem? (i := 4) rfl))))))))
theorem LX10_lie_E_X8_believe : Cond.selects RX8 yX8_believe yX8_believe ∈ wsX10_lie := (List.mem_cons_of_mem _ (List.mem_append_left _ (List.mem_append_left _ (List.mem_append_left _ (List.mem_append_left _ (List.mem_append_left _ (List.mem_append_left _ (List.mem_of_getElem? (i := 6) rfl))))))))
theorem LX10_lie_E_X8_liars : Cond.selects RX8 yX8_liars yX8_liars ∈ wsX10_lie := (List.mem_cons_of_mem _ (List.mem_append_left _ (List.mem_append_left _ (List.mem_append_left _ (List.mem_append_left _ (List.mem_append_left _ (List.mem_append_left _ (List.mem_of_getElem? (i := 8) rfl))))))))
theorem LX10_lie_I_X8 : Cond.initialized RX8 ∈ wsX10_lie := (List.mem_cons_of_mem _ (List.mem_append_left _ (List.mem_append_left _ (List.mem_append_left _ (List.mem_append_left _ (List.mem_append_left _ (List.mem_append_left _ (List.mem_of_getElem? (i := 3) rfl))))))))
theorem LX10_lie_N_X8_areSuch : Cond.instanceMethod yX8_areSuch ∈ wsX10_lie := (List.mem_cons_of_mem _ (List.mem_append_left _ (List.mem_append_left _ (List.mem_append_left _ (List.mem_append_left _ (List.mem_append_left _ (List.mem_append_left _ (List.mem_of_getElem? (i := 2) rfl))))))))
theorem LX10_lie_N_X8_believe : Cond.instanceMethod yX8_believe ∈ wsX10_lie := (List.mem_cons_of_mem _ (List.mem_append_left _ (List.mem_append_left _ (List.mem_append_left _ (List.mem_append_left _ (List.mem_append_left _ (List.mem_append_left _ (List.mem_of_getElem? (i := 5) rfl))))))))
theorem LX10_lie_N_X8_liars : Cond.instanceMethod yX8_liars ∈ wsX10_lie := (List.mem_cons_of_mem _ (List.mem_append_left _ (List.mem_append_left _ (List.mem_append_left _ (List.mem_append_left _ (List.mem_append_left _ (List.mem_append_left _ (List.mem_of_getElem? (i := 7) rfl))))))))
theorem inX10_lie_X10 : ∀ w ∈ u_ws RX10 TX10 9, w ∈ wsX10_lie := fun w h => (List.mem_cons_of_mem _ (List.mem_append_left _ (List.mem_append_left _ (List.mem_append_left _ (List.mem_append_left _ (List.mem_append_right _ h))))))
set_option maxHeartbeats 4000000 in
set_option maxRecDepth 100000 in
theorem bkX10_lie {l : Launch} {dC : Nat → ClassId} {dI : Nat → Nat → Nat} {cB cI cJ cZ cS : ClassId} {a b b2 c0 : Nat → Nat} {rg sl : Nat → Option Nat} {as : List Value} {r : Int32} {s' : XS} (s : XS) (x1 : Int32) (x2 : Int32) (hB : kX10_lie s x1 x2 = some (r, s')) : BlkI l yX10_lie wsX10_lie ({ frames := 3, cells := 0, slots := 0, locals := 76 }) cX10_lie 3 (some .int) (dC, dI) (tysA cB cI cJ cZ cS) as 0 (wX cB cI cJ cZ cS a b b2 c0 rg sl s) [(0, .ref (c0 0)), (1, .int x1), (2, .int x2)] [] (fun x u => x = r ∧ u = (wX cB cI cJ cZ cS a b b2 c0 rg sl s')) := by
  intro p e s0 m below meth c A E H locs ls hP hD hS hl
  obtain ⟨C, hr, hlocks, hA, hK, hN⟩ := id E
  obtain ⟨hx, hb, hml, hown, hts⟩ := id C
  unfold kX10_lie at hB
  refine lv_aload_n hx hb dX10_lie_0 rfl (lv_at hl 0 rfl) ?_
  refine q_get (v := .ref (a 41)) C inX10_lie_X10 hK hP 0 rfl rfl 8 (by decide) rfl LX10_lie_70 rfl dX10_lie_1 ?_
  refine lv_iload_n hx hb dX10_lie_4 rfl (lv_at hl 1 rfl) ?_
  refine lv_iload_n hx hb dX10_lie_5 rfl (lv_at hl 2 rfl) ?_
  obtain ⟨q_, s1, hc, hB⟩ := bindI_inv hB
  refine q_goi (wr := ((wG cZ cS a b b2 c0 rg sl s.g) ++ (wD cI b2 s.t) ++ (wD cI b s.n))) (va_runVN (As := [.int x1, .int x2]) (rest := []) C (ckX8_areSuch hc _) ⟨va_cnB 2 hts gX10_lie_X8_areSuch_n266 rfl rfl rfl (hN _ nwM_X10_266 rfl) (hts _ LX10_lie_I_X8) (by decide +kernel) ⟨Nat.le_of_ble_eq_true rfl, Nat.le_of_ble_eq_true rfl⟩, hts _ LX10_lie_N_X8_areSuch, hts _ LX10_lie_E_X8_areSuch⟩ (q_preV hK hP (ci := 8) (q0 := 58) rfl rfl rfl (q_pre hN hK hP hD [17, 18, 19, 20, 21, 22, 23, 24, 25, 26, 27, 28, 29, 30, 31, 32, 33, 34, 35, 36, 37, 38, 39, 40, 41, 42, 43, 44, 45, 46, 47, 48, 49, 50, 51, 52, 53, 54, 55, 56, 57, 58, 59, 60, 61, 62, 63] (by first | exact zqs_0X | rfl) zqn_0)) rfl rfl hl.1 rfl (lv_room (Nat.le_of_ble_eq_true rfl)) dX10_lie_6 ⟨Nat.le_of_ble_eq_true rfl, Nat.le_of_ble_eq_true rfl⟩) hP hD hS hA [17, 18, 19, 20, 21, 22, 23, 24, 25, 26, 27, 28, 29, 30, 31, 32, 33, 34, 35, 36, 37, 38, 39, 40, 41, 42, 43, 44, 45, 46, 47, 48, 49, 50, 51, 52, 53, 54, 55, 56, 57, 58, 59, 60, 61, 62, 63] [0, 1, 2, 3, 4, 5, 6, 7, 8, 9, 10, 11, 12, 13, 14, 15, 16] (by first | exact zqs_0X | rfl) (by first | exact zqs_1X | rfl) zqn_1 zqd_0 (fun r2 w1 H locs hw hP hD hS => ?_)
  obtain ⟨hq_, hw⟩ := hw; subst hw; subst hq_
  obtain ⟨s3, hs4, hB⟩ := letS_inv hB
  have hP : va_P (dC, dI) vwCl (wX cB cI cJ cZ cS a b b2 c0 rg sl s3) H := by subst hs4; exact hP
  have hD : va_D A (wX cB cI cJ cZ cS a b b2 c0 rg sl s3) := by subst hs4; exact hD
  refine lv_if_ne (tgt := 14) hx hb dX10_lie_9 (by decide) (fun c5 => ?_) (fun c5 => ?_)
  · have hB := if_n hB c5
    refine lv_aload_n hx hb dX10_lie_14 rfl (lv_at hl 0 rfl) ?_
    refine q_get (v := .ref (a 41)) C inX10_lie_X10 hK hP 0 rfl rfl 8 (by decide) rfl LX10_lie_70 rfl dX10_lie_15 ?_
    refine lv_aload_n hx hb dX10_lie_18 rfl (lv_at hl 0 rfl) ?_
    refine q_get (v := .ref (b 0)) C inX10_lie_X10 hK hP 0 rfl rfl 3 (by decide) rfl LX10_lie_35 rfl dX10_lie_19 ?_
    refine lv_iload_n hx hb dX10_lie_22 rfl (lv_at hl 1 rfl) ?_
    obtain ⟨s6, hc, hB⟩ := bindP_inv hB
    refine q_gov (wr := ((wG cZ cS a b b2 c0 rg sl s3.g) ++ (wD cI b2 s3.t))) (va_runVN (As := [.ref (b 0), .int x1]) (rest := []) C (ckX8_believe hc _) ⟨va_cnB 2 hts gX10_lie_X8_believe_n269 rfl rfl rfl (hN _ nwM_X10_269 rfl) (hts _ LX10_lie_I_X8) (by decide +kernel) ⟨Nat.le_of_ble_eq_true rfl, Nat.le_of_ble_eq_true rfl⟩, hts _ LX10_lie_N_X8_believe, hts _ LX10_lie_E_X8_believe⟩ (q_preV hK hP (ci := 8) (q0 := 58) rfl rfl rfl (q_pre hN hK hP hD [11, 12, 13, 14, 15, 16, 17, 18, 19, 20, 21, 22, 23, 24, 25, 26, 27, 28, 29, 30, 31, 32, 33, 34, 35, 36, 37, 38, 39, 40, 41, 42, 43, 44, 45, 46, 47, 48, 49, 50, 51, 52, 53, 54, 55, 56, 57, 58, 59, 60, 61, 62, 63] (by first | exact zqs_2X | rfl) zqn_2)) rfl rfl hl.1 rfl (lv_room (Nat.le_of_ble_eq_true rfl)) dX10_lie_23 ⟨Nat.le_of_ble_eq_true rfl, Nat.le_of_ble_eq_true rfl⟩) hP hD hS hA [11, 12, 13, 14, 15, 16, 17, 18, 19, 20, 21, 22, 23, 24, 25, 26, 27, 28, 29, 30, 31, 32, 33, 34, 35, 36, 37, 38, 39, 40, 41, 42, 43, 44, 45, 46, 47, 48, 49, 50, 51, 52, 53, 54, 55, 56, 57, 58, 59, 60, 61, 62, 63] [0, 1, 2, 3, 4, 5, 6, 7, 8, 9, 10] (by first | exact zqs_2X | rfl) (by first | exact zqs_3X | rfl) zqn_3 zqd_1 (fun w1 H locs hw hP hD hS => ?_)
    subst hw
    obtain ⟨s7, hs8, hB⟩ := letS_inv hB
    have hP : va_P (dC, dI) vwCl (wX cB cI cJ cZ cS a b b2 c0 rg sl s7) H := by subst hs8; exact hP
    have hD : va_D A (wX cB cI cJ cZ cS a b b2 c0 rg sl s7) := by subst hs8; exact hD
    refine lv_aload_n hx hb dX10_lie_26 rfl (lv_at hl 0 rfl) ?_
    refine q_get (v := .ref (a 41)) C inX10_lie_X10 hK hP 0 rfl rfl 8 (by decide) rfl LX10_lie_70 rfl dX10_lie_27 ?_
    refine lv_iload_n hx hb dX10_lie_30 rfl (lv_at hl 1 rfl) ?_
    refine lv_iload_n hx hb dX10_lie_31 rfl (lv_at hl 2 rfl) ?_
    obtain ⟨q_, s9, hc, hB⟩ := bindI_inv hB
    refine q_goi (wr := ((wG cZ cS a b b2 c0 rg sl s7.g) ++ (wD cI b2 s7.t) ++ (wD cI b s7.n))) (va_runVN (As := [.int x1, .int x2]) (rest := []) C (ckX8_liars hc _) ⟨va_cnB 2 hts gX10_lie_X8_liars_n276 rfl rfl rfl (hN _ nwM_X10_276 rfl) (hts _ LX10_lie_I_X8) (by decide +kernel) ⟨Nat.le_of_ble_eq_true rfl, Nat.le_of_ble_eq_true rfl⟩, hts _ LX10_lie_N_X8_liars, hts _ LX10_lie_E_X8_liars⟩ (q_preV hK hP (ci := 8) (q0 := 58) rfl rfl rfl (q_pre hN hK hP hD [17, 18, 19, 20, 21, 22, 23, 24, 25, 26, 27, 28, 29, 30, 31, 32, 33, 34, 35, 36, 37, 38, 39, 40, 41, 42, 43, 44, 45, 46, 47, 48, 49, 50, 51, 52, 53, 54, 55, 56, 57, 58, 59, 60, 61, 62, 63] (by first | exact zqs_0X | rfl) zqn_0)) rfl rfl hl.1 rfl (lv_room (Nat.le_of_ble_eq_true rfl)) dX10_lie_32 ⟨Nat.le_of_ble_eq_true rfl, Nat.le_of_ble_eq_true rfl⟩) hP hD hS hA [17, 18, 19, 20, 21, 22, 23, 24, 25, 26, 27, 28, 29, 30, 31, 32, 33, 34, 35, 36, 37, 38, 39, 40, 41, 42, 43, 44, 45, 46, 47, 48, 49, 50, 51, 52, 53, 54, 55, 56, 57, 58, 59, 60, 61, 62, 63] [0, 1, 2, 3, 4, 5, 6, 7, 8, 9, 10, 11, 12, 13, 14, 15, 16] (by first | exact zqs_0X | rfl) (by first | exact zqs_1X | rfl) zqn_1 zqd_0 (fun r10 w1 H locs hw hP hD hS => ?_)
    obtain ⟨hq_, hw⟩ := hw; subst hw; subst hq_
    obtain ⟨s11, hs12, hB⟩ := letS_inv hB
    have hP : va_P (dC, dI) vwCl (wX cB cI cJ cZ cS a b b2 c0 rg sl s11) H := by subst hs12; exact hP
    have hD : va_D A (wX cB cI cJ cZ cS a b b2 c0 rg sl s11) := by subst hs12; exact hD
    exact q_iret C hr hlocks hK hP hD hS (Nat.le_of_ble_eq_true rfl) (Nat.le_of_ble_eq_true rfl) dX10_lie_35 (by cases hB; exact ⟨rfl, rfl⟩)
  · have hB := if_p hB c5
    refine lv_iconst (v := (-1)) hx hb dX10_lie_12 (by decide) ?_
    exact q_iret C hr hlocks hK hP hD hS (Nat.le_of_ble_eq_true rfl) (Nat.le_of_ble_eq_true rfl) dX10_lie_13 (by cases hB; exact ⟨rfl, rfl⟩)
theorem ckX10_lie {l : Launch} {dC : Nat → ClassId} {dI : Nat → Nat → Nat} {cB cI cJ cZ cS : ClassId} {a b b2 c0 : Nat → Nat} {rg sl : Nat → Option Nat} {r : Int32} {s' : XS} {s : XS} {x1 : Int32} {x2 : Int32} (hB : kX10_lie s x1 x2 = some (r, s')) : CI l yX10_lie wsX10_lie ({ frames := 3, cells := 0, slots := 0, locals := 76 }) (dC, dI) (tysA cB cI cJ cZ cS) (wX cB cI cJ cZ cS a b b2 c0 rg sl s) [.ref (c0 0), .int x1, .int x2] (fun x u => x = r ∧ u = (wX cB cI cJ cZ cS a b b2 c0 rg sl s')) :=
  CI_of (cc := cX10_lie) (maxL := 3) (ret := (some .int)) (by decide) rfl (Nat.le_of_ble_eq_true rfl) (bkX10_lie _ _ _ hB)
theorem LX10_ask_35 : Cond.fieldLink RX10 35 "GuessFerry" "now" "LGuessFerry$Standing;" ∈ wsX10_ask := (List.mem_cons_of_mem _ (List.mem_append_left _ (List.mem_append_left _ (List.mem_append_left _ (List.mem_append_left _ (List.mem_append_left _ (List.mem_append_left _ (List.mem_of_getElem? (i := 1) rfl))))))))
theorem LX10_ask_70 : Cond.fieldLink RX10 70 "GuessFerry" "tellers" "LGuessFerry$Tellers;" ∈ wsX10_ask := (List.mem_cons_of_mem _ (List.mem_append_left _ (List.mem_append_left _ (List.mem_append_left _ (List.mem_append_left _ (List.mem_append_left _ (List.mem_append_left _ (List.mem_of_getElem? (i := 0) rfl))))))))
theorem LX10_ask_E_X8_areSuch : Cond.selects RX8 yX8_areSuch yX8_areSuch ∈ wsX10_ask := (List.mem_cons_of_mem _ (List.mem_append_left _ (List.mem_append_left _ (List.mem_append_left _ (List.mem_append_left _ (List.mem_append_left _ (List.mem_append_left _ (List.mem_of_getElem? (i := 4) rfl))))))))
theorem LX10_ask_E_X8_believe : Cond.selects RX8 yX8_believe yX8_believe ∈ wsX10_ask := (List.mem_cons_of_mem _ (List.mem_append_left _ (List.mem_append_left _ (List.mem_append_left _ (List.mem_append_left _ (List.mem_append_left _ (List.mem_append_left _ (List.mem_of_getElem? (i := 6) rfl))))))))
theorem LX10_ask_E_X8_waveToAsk : Cond.selects RX8 yX8_waveToAsk yX8_waveToAsk ∈ wsX10_ask := (List.mem_cons_of_mem _ (List.mem_append_left _ (List.mem_append_left _ (List.mem_append_left _ (List.mem_append_left _ (List.mem_append_left _ (List.mem_append_left _ (List.mem_of_getElem? (i := 8) rfl))))))))
theorem LX10_ask_I_X8 : Cond.initialized RX8 ∈ wsX10_ask := (List.mem_cons_of_mem _ (List.mem_append_left _ (List.mem_append_left _ (List.mem_append_left _ (List.mem_append_left _ (List.mem_append_left _ (List.mem_append_left _ (List.mem_of_getElem? (i := 3) rfl))))))))
theorem LX10_ask_N_X8_areSuch : Cond.instanceMethod yX8_areSuch ∈ wsX10_ask := (List.mem_cons_of_mem _ (List.mem_append_left _ (List.mem_append_left _ (List.mem_append_left _ (List.mem_append_left _ (List.mem_append_left _ (List.mem_append_left _ (List.mem_of_getElem? (i := 2) rfl))))))))
theorem LX10_ask_N_X8_believe : Cond.instanceMethod yX8_believe ∈ wsX10_ask := (List.mem_cons_of_mem _ (List.mem_append_left _ (List.mem_append_left _ (List.mem_append_left _ (List.mem_append_left _ (List.mem_append_left _ (List.mem_append_left _ (List.mem_of_getElem? (i := 5) rfl))))))))
theorem LX10_ask_N_X8_waveToAsk : Cond.instanceMethod yX8_waveToAsk ∈ wsX10_ask := (List.mem_cons_of_mem _ (List.mem_append_left _ (List.mem_append_left _ (List.mem_append_left _ (List.mem_append_left _ (List.mem_append_left _ (List.mem_append_left _ (List.mem_of_getElem? (i := 7) rfl))))))))
theorem inX10_ask_X10 : ∀ w ∈ u_ws RX10 TX10 9, w ∈ wsX10_ask := fun w h => (List.mem_cons_of_mem _ (List.mem_append_left _ (List.mem_append_left _ (List.mem_append_left _ (List.mem_append_left _ (List.mem_append_right _ h))))))
set_option maxHeartbeats 4000000 in
set_option maxRecDepth 100000 in
theorem bkX10_ask {l : Launch} {dC : Nat → ClassId} {dI : Nat → Nat → Nat} {cB cI cJ cZ cS : ClassId} {a b b2 c0 : Nat → Nat} {rg sl : Nat → Option Nat} {as : List Value} {r : Int32} {s' : XS} (s : XS) (x1 : Int32) (x2 : Int32) (hB : kX10_ask s x1 x2 = some (r, s')) : BlkI l yX10_ask wsX10_ask ({ frames := 3, cells := 0, slots := 0, locals := 76 }) cX10_ask 3 (some .int) (dC, dI) (tysA cB cI cJ cZ cS) as 0 (wX cB cI cJ cZ cS a b b2 c0 rg sl s) [(0, .ref (c0 0)), (1, .int x1), (2, .int x2)] [] (fun x u => x = r ∧ u = (wX cB cI cJ cZ cS a b b2 c0 rg sl s')) := by
  intro p e s0 m below meth c A E H locs ls hP hD hS hl
  obtain ⟨C, hr, hlocks, hA, hK, hN⟩ := id E
  obtain ⟨hx, hb, hml, hown, hts⟩ := id C
  unfold kX10_ask at hB
  refine lv_aload_n hx hb dX10_ask_0 rfl (lv_at hl 0 rfl) ?_
  refine q_get (v := .ref (a 41)) C inX10_ask_X10 hK hP 0 rfl rfl 8 (by decide) rfl LX10_ask_70 rfl dX10_ask_1 ?_
  refine lv_iload_n hx hb dX10_ask_4 rfl (lv_at hl 1 rfl) ?_
  refine lv_iload_n hx hb dX10_ask_5 rfl (lv_at hl 2 rfl) ?_
  obtain ⟨q_, s1, hc, hB⟩ := bindI_inv hB
  refine q_goi (wr := ((wG cZ cS a b b2 c0 rg sl s.g) ++ (wD cI b2 s.t) ++ (wD cI b s.n))) (va_runVN (As := [.int x1, .int x2]) (rest := []) C (ckX8_areSuch hc _) ⟨va_cnB 2 hts gX10_ask_X8_areSuch_n266 rfl rfl rfl (hN _ nwM_X10_266 rfl) (hts _ LX10_ask_I_X8) (by decide +kernel) ⟨Nat.le_of_ble_eq_true rfl, Nat.le_of_ble_eq_true rfl⟩, hts _ LX10_ask_N_X8_areSuch, hts _ LX10_ask_E_X8_areSuch⟩ (q_preV hK hP (ci := 8) (q0 := 58) rfl rfl rfl (q_pre hN hK hP hD [17, 18, 19, 20, 21, 22, 23, 24, 25, 26, 27, 28, 29, 30, 31, 32, 33, 34, 35, 36, 37, 38, 39, 40, 41, 42, 43, 44, 45, 46, 47, 48, 49, 50, 51, 52, 53, 54, 55, 56, 57, 58, 59, 60, 61, 62, 63] (by first | exact zqs_0X | rfl) zqn_0)) rfl rfl hl.1 rfl (lv_room (Nat.le_of_ble_eq_true rfl)) dX10_ask_6 ⟨Nat.le_of_ble_eq_true rfl, Nat.le_of_ble_eq_true rfl⟩) hP hD hS hA [17, 18, 19, 20, 21, 22, 23, 24, 25, 26, 27, 28, 29, 30, 31, 32, 33, 34, 35, 36, 37, 38, 39, 40, 41, 42, 43, 44, 45, 46, 47, 48, 49, 50, 51, 52, 53, 54, 55, 56, 57, 58, 59, 60, 61, 62, 63] [0, 1, 2, 3, 4, 5, 6, 7, 8, 9, 10, 11, 12, 13, 14, 15, 16] (by first | exact zqs_0X | rfl) (by first | exact zqs_1X | rfl) zqn_1 zqd_0 (fun r2 w1 H locs hw hP hD hS => ?_)
  obtain ⟨hq_, hw⟩ := hw; subst hw; subst hq_
  obtain ⟨s3, hs4, hB⟩ := letS_inv hB
  have hP : va_P (dC, dI) vwCl (wX cB cI cJ cZ cS a b b2 c0 rg sl s3) H := by subst hs4; exact hP
  have hD : va_D A (wX cB cI cJ cZ cS a b b2 c0 rg sl s3) := by subst hs4; exact hD
  refine lv_if_ne (tgt := 14) hx hb dX10_ask_9 (by decide) (fun c5 => ?_) (fun c5 => ?_)
  · have hB := if_n hB c5
    refine lv_aload_n hx hb dX10_ask_14 rfl (lv_at hl 0 rfl) ?_
    refine q_get (v := .ref (a 41)) C inX10_ask_X10 hK hP 0 rfl rfl 8 (by decide) rfl LX10_ask_70 rfl dX10_ask_15 ?_
    refine lv_aload_n hx hb dX10_ask_18 rfl (lv_at hl 0 rfl) ?_
    refine q_get (v := .ref (b 0)) C inX10_ask_X10 hK hP 0 rfl rfl 3 (by decide) rfl LX10_ask_35 rfl dX10_ask_19 ?_
    refine lv_iload_n hx hb dX10_ask_22 rfl (lv_at hl 1 rfl) ?_
    obtain ⟨s6, hc, hB⟩ := bindP_inv hB
    refine q_gov (wr := ((wG cZ cS a b b2 c0 rg sl s3.g) ++ (wD cI b2 s3.t))) (va_runVN (As := [.ref (b 0), .int x1]) (rest := []) C (ckX8_believe hc _) ⟨va_cnB 2 hts gX10_ask_X8_believe_n269 rfl rfl rfl (hN _ nwM_X10_269 rfl) (hts _ LX10_ask_I_X8) (by decide +kernel) ⟨Nat.le_of_ble_eq_true rfl, Nat.le_of_ble_eq_true rfl⟩, hts _ LX10_ask_N_X8_believe, hts _ LX10_ask_E_X8_believe⟩ (q_preV hK hP (ci := 8) (q0 := 58) rfl rfl rfl (q_pre hN hK hP hD [11, 12, 13, 14, 15, 16, 17, 18, 19, 20, 21, 22, 23, 24, 25, 26, 27, 28, 29, 30, 31, 32, 33, 34, 35, 36, 37, 38, 39, 40, 41, 42, 43, 44, 45, 46, 47, 48, 49, 50, 51, 52, 53, 54, 55, 56, 57, 58, 59, 60, 61, 62, 63] (by first | exact zqs_2X | rfl) zqn_2)) rfl rfl hl.1 rfl (lv_room (Nat.le_of_ble_eq_true rfl)) dX10_ask_23 ⟨Nat.le_of_ble_eq_true rfl, Nat.le_of_ble_eq_true rfl⟩) hP hD hS hA [11, 12, 13, 14, 15, 16, 17, 18, 19, 20, 21, 22, 23, 24, 25, 26, 27, 28, 29, 30, 31, 32, 33, 34, 35, 36, 37, 38, 39, 40, 41, 42, 43, 44, 45, 46, 47, 48, 49, 50, 51, 52, 53, 54, 55, 56, 57, 58, 59, 60, 61, 62, 63] [0, 1, 2, 3, 4, 5, 6, 7, 8, 9, 10] (by first | exact zqs_2X | rfl) (by first | exact zqs_3X | rfl) zqn_3 zqd_1 (fun w1 H locs hw hP hD hS => ?_)
    subst hw
    obtain ⟨s7, hs8, hB⟩ := letS_inv hB
    have hP : va_P (dC, dI) vwCl (wX cB cI cJ cZ cS a b b2 c0 rg sl s7) H := by subst hs8; exact hP
    have hD : va_D A (wX cB cI cJ cZ cS a b b2 c0 rg sl s7) := by subst hs8; exact hD
    refine lv_aload_n hx hb dX10_ask_26 rfl (lv_at hl 0 rfl) ?_
    refine q_get (v := .ref (a 41)) C inX10_ask_X10 hK hP 0 rfl rfl 8 (by decide) rfl LX10_ask_70 rfl dX10_ask_27 ?_
    refine lv_iload_n hx hb dX10_ask_30 rfl (lv_at hl 2 rfl) ?_
    obtain ⟨q_, s9, hc, hB⟩ := bindI_inv hB
    refine q_goi (wr := ((wG cZ cS a b b2 c0 rg sl s7.g) ++ (wD cI b2 s7.t) ++ (wD cI b s7.n))) (va_runVN (As := [.int x2]) (rest := []) C (ckX8_waveToAsk hc _) ⟨va_cnB 1 hts gX10_ask_X8_waveToAsk_n279 rfl rfl rfl (hN _ nwM_X10_279 rfl) (hts _ LX10_ask_I_X8) (by decide +kernel) ⟨Nat.le_of_ble_eq_true rfl, Nat.le_of_ble_eq_true rfl⟩, hts _ LX10_ask_N_X8_waveToAsk, hts _ LX10_ask_E_X8_waveToAsk⟩ (q_preV hK hP (ci := 8) (q0 := 58) rfl rfl rfl (q_pre hN hK hP hD [17, 18, 19, 20, 21, 22, 23, 24, 25, 26, 27, 28, 29, 30, 31, 32, 33, 34, 35, 36, 37, 38, 39, 40, 41, 42, 43, 44, 45, 46, 47, 48, 49, 50, 51, 52, 53, 54, 55, 56, 57, 58, 59, 60, 61, 62, 63] (by first | exact zqs_0X | rfl) zqn_0)) rfl rfl hl.1 rfl (lv_room (Nat.le_of_ble_eq_true rfl)) dX10_ask_31 ⟨Nat.le_of_ble_eq_true rfl, Nat.le_of_ble_eq_true rfl⟩) hP hD hS hA [17, 18, 19, 20, 21, 22, 23, 24, 25, 26, 27, 28, 29, 30, 31, 32, 33, 34, 35, 36, 37, 38, 39, 40, 41, 42, 43, 44, 45, 46, 47, 48, 49, 50, 51, 52, 53, 54, 55, 56, 57, 58, 59, 60, 61, 62, 63] [0, 1, 2, 3, 4, 5, 6, 7, 8, 9, 10, 11, 12, 13, 14, 15, 16] (by first | exact zqs_0X | rfl) (by first | exact zqs_1X | rfl) zqn_1 zqd_0 (fun r10 w1 H locs hw hP hD hS => ?_)
    obtain ⟨hq_, hw⟩ := hw; subst hw; subst hq_
    obtain ⟨s11, hs12, hB⟩ := letS_inv hB
    have hP : va_P (dC, dI) vwCl (wX cB cI cJ cZ cS a b b2 c0 rg sl s11) H := by subst hs12; exact hP
    have hD : va_D A (wX cB cI cJ cZ cS a b b2 c0 rg sl s11) := by subst hs12; exact hD
    exact q_iret C hr hlocks hK hP hD hS (Nat.le_of_ble_eq_true rfl) (Nat.le_of_ble_eq_true rfl) dX10_ask_34 (by cases hB; exact ⟨rfl, rfl⟩)
  · have hB := if_p hB c5
    refine lv_iconst (v := (-1)) hx hb dX10_ask_12 (by decide) ?_
    exact q_iret C hr hlocks hK hP hD hS (Nat.le_of_ble_eq_true rfl) (Nat.le_of_ble_eq_true rfl) dX10_ask_13 (by cases hB; exact ⟨rfl, rfl⟩)
theorem ckX10_ask {l : Launch} {dC : Nat → ClassId} {dI : Nat → Nat → Nat} {cB cI cJ cZ cS : ClassId} {a b b2 c0 : Nat → Nat} {rg sl : Nat → Option Nat} {r : Int32} {s' : XS} {s : XS} {x1 : Int32} {x2 : Int32} (hB : kX10_ask s x1 x2 = some (r, s')) : CI l yX10_ask wsX10_ask ({ frames := 3, cells := 0, slots := 0, locals := 76 }) (dC, dI) (tysA cB cI cJ cZ cS) (wX cB cI cJ cZ cS a b b2 c0 rg sl s) [.ref (c0 0), .int x1, .int x2] (fun x u => x = r ∧ u = (wX cB cI cJ cZ cS a b b2 c0 rg sl s')) :=
  CI_of (cc := cX10_ask) (maxL := 3) (ret := (some .int)) (by decide) rfl (Nat.le_of_ble_eq_true rfl) (bkX10_ask _ _ _ hB)
theorem LX0_thereNow_9 : Cond.fieldLink RX0 9 "GuessFerry$Crossing" "sound" "LGuessFerry$Sound;" ∈ wsX0_thereNow := (List.mem_cons_of_mem _ (List.mem_append_left _ (List.mem_append_left _ (List.mem_append_left _ (List.mem_append_left _ (List.mem_of_getElem? (i := 0) rfl))))))
theorem LX0_thereNow_E_X5_thingThere : Cond.selects RX5 yX5_thingThere yX5_thingThere ∈ wsX0_thereNow := (List.mem_cons_of_mem _ (List.mem_append_left _ (List.mem_append_left _ (List.mem_append_left _ (List.mem_append_left _ (List.mem_of_getElem? (i := 3) rfl))))))
theorem LX0_thereNow_I_X5 : Cond.initialized RX5 ∈ wsX0_thereNow := (List.mem_cons_of_mem _ (List.mem_append_left _ (List.mem_append_left _ (List.mem_append_left _ (List.mem_append_left _ (List.mem_of_getElem? (i := 2) rfl))))))
theorem LX0_thereNow_N_X5_thingThere : Cond.instanceMethod yX5_thingThere ∈ wsX0_thereNow := (List.mem_cons_of_mem _ (List.mem_append_left _ (List.mem_append_left _ (List.mem_append_left _ (List.mem_append_left _ (List.mem_of_getElem? (i := 1) rfl))))))
theorem inX0_thereNow_X0 : ∀ w ∈ u_ws RX0 TX0 2, w ∈ wsX0_thereNow := fun w h => (List.mem_cons_of_mem _ (List.mem_append_left _ (List.mem_append_left _ (List.mem_append_right _ h))))
theorem inX0_thereNow_X5 : ∀ w ∈ u_ws RX5 TX5 10, w ∈ wsX0_thereNow := fun w h => (List.mem_cons_of_mem _ (List.mem_append_right _ h))
theorem inX0_thereNow_X6 : ∀ w ∈ u_ws RX6 TX6 7, w ∈ wsX0_thereNow := fun w h => (List.mem_cons_of_mem _ (List.mem_append_left _ (List.mem_append_right _ h)))
set_option maxHeartbeats 4000000 in
set_option maxRecDepth 100000 in
theorem bkX0_thereNow {l : Launch} {dC : Nat → ClassId} {dI : Nat → Nat → Nat} {cB cI cJ cZ cS : ClassId} {a b : Nat → Nat} {as : List Value} {r : Int32} {s' : JS} (s : JS) (x2 : Int32) (hB : kX0_thereNow s x2 = some (r, s')) : BlkI l yX0_thereNow wsX0_thereNow ({ frames := 3, cells := 0, slots := 0, locals := 71 }) cX0_thereNow 3 (some .int) (dC, dI) (tysA cB cI cJ cZ cS) as 0 (wJ cB cI cJ cZ cS a b s) [(0, .ref (a 35)), (1, .ref (b 0)), (2, .int x2)] [] (fun x u => x = r ∧ u = (wJ cB cI cJ cZ cS a b s')) := by
  intro p e s0 m below meth c A E H locs ls hP hD hS hl
  obtain ⟨C, hr, hlocks, hA, hK, hN⟩ := id E
  obtain ⟨hx, hb, hml, hown, hts⟩ := id C
  unfold kX0_thereNow at hB
  refine lv_aload_n hx hb dX0_thereNow_0 rfl (lv_at hl 0 rfl) ?_
  refine q_get (v := .ref (a 2)) C inX0_thereNow_X0 hK hP 41 rfl rfl 0 (by decide) rfl LX0_thereNow_9 rfl dX0_thereNow_1 ?_
  refine lv_iload_n hx hb dX0_thereNow_4 rfl (lv_at hl 2 rfl) ?_
  refine lv_aload_n hx hb dX0_thereNow_5 rfl (lv_at hl 1 rfl) ?_
  refine q_getN (v := .ref (b 3)) C hN inX0_thereNow_X6 hK hP 0 rfl rfl 2 (by decide) rfl nwF_X0_39 rfl dX0_thereNow_6 ?_
  refine lv_iload_n hx hb dX0_thereNow_9 rfl (lv_at hl 2 rfl) ?_
  obtain ⟨g1, hB⟩ := guard_inv hB
  refine q_iald (x := ((s.d.f 2) (Int32.toNatClampNeg x2))) C hK hP 3 1 rfl rfl (vpb_in g1) dX0_thereNow_10 rfl ?_
  refine lv_aload_n hx hb dX0_thereNow_11 rfl (lv_at hl 0 rfl) ?_
  refine q_get (v := .ref (a 2)) C inX0_thereNow_X0 hK hP 41 rfl rfl 0 (by decide) rfl LX0_thereNow_9 rfl dX0_thereNow_12 ?_
  refine q_getN (v := .int (s.k.v 4)) C hN inX0_thereNow_X5 hK hP 8 rfl rfl 9 (by decide) rfl nwF_X0_42 rfl dX0_thereNow_15 ?_
  obtain ⟨q_, s2, hc, hB⟩ := bindI_inv hB
  refine q_goi (wr := ((wD cI b s.d))) (va_runVN (As := [.int x2, .int ((s.d.f 2) (Int32.toNatClampNeg x2)), .int (s.k.v 4)]) (rest := []) C (ckX5_thingThere hc _) ⟨va_cnB 3 hts gX0_thereNow_X5_thingThere_n46 rfl rfl rfl (hN _ nwM_X0_46 rfl) (hts _ LX0_thereNow_I_X5) (by decide +kernel) ⟨Nat.le_of_ble_eq_true rfl, Nat.le_of_ble_eq_true rfl⟩, hts _ LX0_thereNow_N_X5_thingThere, hts _ LX0_thereNow_E_X5_thingThere⟩ (q_preV hK hP (ci := 5) (q0 := 8) rfl rfl rfl (q_pre hN hK hP hD [6, 7, 8, 9, 10, 11, 12, 13, 14, 15, 16, 17, 18, 19, 20, 21, 22, 23, 24, 25, 26, 27, 28, 29, 30, 31, 32, 33, 34, 35, 36, 37, 38, 39, 40, 41, 42, 43, 44, 45, 46, 47, 48, 49, 50, 51, 52] (by first | exact zqs_6J | rfl) zqn_6)) rfl rfl hl.1 rfl (lv_room (Nat.le_of_ble_eq_true rfl)) dX0_thereNow_18 ⟨Nat.le_of_ble_eq_true rfl, Nat.le_of_ble_eq_true rfl⟩) hP hD hS hA [6, 7, 8, 9, 10, 11, 12, 13, 14, 15, 16, 17, 18, 19, 20, 21, 22, 23, 24, 25, 26, 27, 28, 29, 30, 31, 32, 33, 34, 35, 36, 37, 38, 39, 40, 41, 42, 43, 44, 45, 46, 47, 48, 49, 50, 51, 52] [0, 1, 2, 3, 4, 5] (by first | exact zqs_6J | rfl) (by first | exact zqs_7J | rfl) zqn_7 zqd_3 (fun r3 w1 H locs hw hP hD hS => ?_)
  obtain ⟨hq_, hw⟩ := hw; subst hw; subst hq_
  obtain ⟨s4, hs5, hB⟩ := letS_inv hB
  have hP : va_P (dC, dI) vwCl (wJ cB cI cJ cZ cS a b s4) H := by subst hs5; exact hP
  have hD : va_D A (wJ cB cI cJ cZ cS a b s4) := by subst hs5; exact hD
  exact q_iret C hr hlocks hK hP hD hS (Nat.le_of_ble_eq_true rfl) (Nat.le_of_ble_eq_true rfl) dX0_thereNow_21 (by cases hB; exact ⟨rfl, rfl⟩)
theorem ckX0_thereNow {l : Launch} {dC : Nat → ClassId} {dI : Nat → Nat → Nat} {cB cI cJ cZ cS : ClassId} {a b : Nat → Nat} {r : Int32} {s' : JS} {s : JS} {x2 : Int32} (hB : kX0_thereNow s x2 = some (r, s')) : CI l yX0_thereNow wsX0_thereNow ({ frames := 3, cells := 0, slots := 0, locals := 71 }) (dC, dI) (tysA cB cI cJ cZ cS) (wJ cB cI cJ cZ cS a b s) [.ref (a 35), .ref (b 0), .int x2] (fun x u => x = r ∧ u = (wJ cB cI cJ cZ cS a b s')) :=
  CI_of (cc := cX0_thereNow) (maxL := 3) (ret := (some .int)) (by decide) rfl (Nat.le_of_ble_eq_true rfl) (bkX0_thereNow _ _ hB)
theorem LX0_guessThere_9 : Cond.fieldLink RX0 9 "GuessFerry$Crossing" "sound" "LGuessFerry$Sound;" ∈ wsX0_guessThere := (List.mem_cons_of_mem _ (List.mem_append_left _ (List.mem_append_left _ (List.mem_append_left _ (List.mem_append_left _ (List.mem_of_getElem? (i := 0) rfl))))))
theorem LX0_guessThere_E_X5_thingThere : Cond.selects RX5 yX5_thingThere yX5_thingThere ∈ wsX0_guessThere := (List.mem_cons_of_mem _ (List.mem_append_left _ (List.mem_append_left _ (List.mem_append_left _ (List.mem_append_left _ (List.mem_of_getElem? (i := 3) rfl))))))
theorem LX0_guessThere_I_X5 : Cond.initialized RX5 ∈ wsX0_guessThere := (List.mem_cons_of_mem _ (List.mem_append_left _ (List.mem_append_left _ (List.mem_append_left _ (List.mem_append_left _ (List.mem_of_getElem? (i := 2) rfl))))))
theorem LX0_guessThere_N_X5_thingThere : Cond.instanceMethod yX5_thingThere ∈ wsX0_guessThere := (List.mem_cons_of_mem _ (List.mem_append_left _ (List.mem_append_left _ (List.mem_append_left _ (List.mem_append_left _ (List.mem_of_getElem? (i := 1) rfl))))))
theorem inX0_guessThere_X0 : ∀ w ∈ u_ws RX0 TX0 2, w ∈ wsX0_guessThere := fun w h => (List.mem_cons_of_mem _ (List.mem_append_left _ (List.mem_append_left _ (List.mem_append_right _ h))))
theorem inX0_guessThere_X5 : ∀ w ∈ u_ws RX5 TX5 10, w ∈ wsX0_guessThere := fun w h => (List.mem_cons_of_mem _ (List.mem_append_left _ (List.mem_append_right _ h)))
theorem inX0_guessThere_X6 : ∀ w ∈ u_ws RX6 TX6 7, w ∈ wsX0_guessThere := fun w h => (List.mem_cons_of_mem _ (List.mem_append_right _ h))
set_option maxHeartbeats 4000000 in
set_option maxRecDepth 100000 in
theorem bkX0_guessThere_13 {l : Launch} {dC : Nat → ClassId} {dI : Nat → Nat → Nat} {cB cI cJ cZ cS : ClassId} {a b : Nat → Nat} {as : List Value} {r : Int32} {s' : JS} {k13 : JS → Int32 → Int32 → Int32 → Option (Int32 × JS)} (hk13 : ∀ (s : JS) (x2 : Int32) (x3 : Int32) (x4 : Int32), k13 s x2 x3 x4 = some (r, s') → BlkI l yX0_guessThere wsX0_guessThere ({ frames := 3, cells := 0, slots := 0, locals := 71 }) cX0_guessThere 5 (some .int) (dC, dI) (tysA cB cI cJ cZ cS) as 13 (wJ cB cI cJ cZ cS a b s) [(0, .ref (a 35)), (1, .ref (b 0)), (2, .int x2), (3, .int x3), (4, .int x4)] [] (fun x u => x = r ∧ u = (wJ cB cI cJ cZ cS a b s'))) (s : JS) (x2 : Int32) (x3 : Int32) (x4 : Int32) (hB : kX0_guessThere_13 k13 s x2 x3 x4 = some (r, s')) : BlkI l yX0_guessThere wsX0_guessThere ({ frames := 3, cells := 0, slots := 0, locals := 71 }) cX0_guessThere 5 (some .int) (dC, dI) (tysA cB cI cJ cZ cS) as 13 (wJ cB cI cJ cZ cS a b s) [(0, .ref (a 35)), (1, .ref (b 0)), (2, .int x2), (3, .int x3), (4, .int x4)] [] (fun x u => x = r ∧ u = (wJ cB cI cJ cZ cS a b s')) := by
  intro p e s0 m below meth c A E H locs ls hP hD hS hl
  obtain ⟨C, hr, hlocks, hA, hK, hN⟩ := id E
  obtain ⟨hx, hb, hml, hown, hts⟩ := id C
  unfold kX0_guessThere_13 at hB
  refine lv_iload hx hb dX0_guessThere_13 (lv_at hl 4 rfl) ?_
  refine lv_if_lt (tgt := 47) hx hb dX0_guessThere_15 (by decide) (fun c1 => ?_) (fun c1 => ?_)
  · have hB := if_p hB c1
    refine lv_iload_n hx hb dX0_guessThere_47 rfl (lv_at hl 3 rfl) ?_
    exact q_iret C hr hlocks hK hP hD hS (Nat.le_of_ble_eq_true rfl) (Nat.le_of_ble_eq_true rfl) dX0_guessThere_48 (by cases hB; exact ⟨rfl, rfl⟩)
  · have hB := if_n hB c1
    refine lv_iload_n hx hb dX0_guessThere_18 rfl (lv_at hl 3 rfl) ?_
    refine lv_bipush (v := 6) hx hb dX0_guessThere_19 (by decide) ?_
    refine lv_imul hx hb dX0_guessThere_21 ?_
    refine lv_aload_n hx hb dX0_guessThere_22 rfl (lv_at hl 0 rfl) ?_
    refine q_get (v := .ref (a 2)) C inX0_guessThere_X0 hK hP 41 rfl rfl 0 (by decide) rfl LX0_guessThere_9 rfl dX0_guessThere_23 ?_
    refine lv_iload hx hb dX0_guessThere_26 (lv_at hl 4 rfl) ?_
    refine lv_aload_n hx hb dX0_guessThere_28 rfl (lv_at hl 1 rfl) ?_
    refine q_getN (v := .ref (b 3)) C hN inX0_guessThere_X6 hK hP 0 rfl rfl 2 (by decide) rfl nwF_X0_39 rfl dX0_guessThere_29 ?_
    refine lv_iload hx hb dX0_guessThere_32 (lv_at hl 4 rfl) ?_
    obtain ⟨g2, hB⟩ := guard_inv hB
    refine q_iald (x := ((s.d.f 2) (Int32.toNatClampNeg x4))) C hK hP 3 1 rfl rfl (vpb_in g2) dX0_guessThere_34 rfl ?_
    refine lv_iload_n hx hb dX0_guessThere_35 rfl (lv_at hl 2 rfl) ?_
    obtain ⟨q_, s3, hc, hB⟩ := bindI_inv hB
    refine q_goi (wr := ((wD cI b s.d))) (va_runVN (As := [.int x4, .int ((s.d.f 2) (Int32.toNatClampNeg x4)), .int x2]) (rest := [.int (x3 * 6)]) C (ckX5_thingThere hc _) ⟨va_cnB 3 hts gX0_guessThere_X5_thingThere_n46 rfl rfl rfl (hN _ nwM_X0_46 rfl) (hts _ LX0_guessThere_I_X5) (by decide +kernel) ⟨Nat.le_of_ble_eq_true rfl, Nat.le_of_ble_eq_true rfl⟩, hts _ LX0_guessThere_N_X5_thingThere, hts _ LX0_guessThere_E_X5_thingThere⟩ (q_preV hK hP (ci := 5) (q0 := 8) rfl rfl rfl (q_pre hN hK hP hD [6, 7, 8, 9, 10, 11, 12, 13, 14, 15, 16, 17, 18, 19, 20, 21, 22, 23, 24, 25, 26, 27, 28, 29, 30, 31, 32, 33, 34, 35, 36, 37, 38, 39, 40, 41, 42, 43, 44, 45, 46, 47, 48, 49, 50, 51, 52] (by first | exact zqs_6J | rfl) zqn_6)) rfl rfl hl.1 rfl (lv_room (Nat.le_of_ble_eq_true rfl)) dX0_guessThere_36 ⟨Nat.le_of_ble_eq_true rfl, Nat.le_of_ble_eq_true rfl⟩) hP hD hS hA [6, 7, 8, 9, 10, 11, 12, 13, 14, 15, 16, 17, 18, 19, 20, 21, 22, 23, 24, 25, 26, 27, 28, 29, 30, 31, 32, 33, 34, 35, 36, 37, 38, 39, 40, 41, 42, 43, 44, 45, 46, 47, 48, 49, 50, 51, 52] [0, 1, 2, 3, 4, 5] (by first | exact zqs_6J | rfl) (by first | exact zqs_7J | rfl) zqn_7 zqd_3 (fun r4 w1 H locs hw hP hD hS => ?_)
    obtain ⟨hq_, hw⟩ := hw; subst hw; subst hq_
    obtain ⟨s5, hs6, hB⟩ := letS_inv hB
    have hP : va_P (dC, dI) vwCl (wJ cB cI cJ cZ cS a b s5) H := by subst hs6; exact hP
    have hD : va_D A (wJ cB cI cJ cZ cS a b s5) := by subst hs6; exact hD
    refine lv_iadd hx hb dX0_guessThere_39 ?_
    refine lv_istore_n (lv' := [(3, .int ((x3 * 6) + r4)), (0, .ref (a 35)), (1, .ref (b 0)), (2, .int x2), (4, .int x4)]) hx hb dX0_guessThere_40 rfl hl (by decide) rfl (fun ls hl => ?_)
    refine lv_iinc (v := (x4 + (-1))) (lv' := [(4, .int (x4 + (-1))), (3, .int ((x3 * 6) + r4)), (0, .ref (a 35)), (1, .ref (b 0)), (2, .int x2)]) hx hb dX0_guessThere_41 hl (k := 4) rfl (rfl) (by decide) rfl (fun ls hl => ?_)
    refine lv_goto (tgt := 13) hx hb dX0_guessThere_44 (by decide) ?_
    exact hk13 _ _ _ _ hB p e s0 m below meth c A E H locs ls hP hD hS (lv_sub hl [2, 3, 4, 1, 0] rfl)
theorem bkX0_guessThere_13L {l : Launch} {dC : Nat → ClassId} {dI : Nat → Nat → Nat} {cB cI cJ cZ cS : ClassId} {a b : Nat → Nat} {as : List Value} {r : Int32} {s' : JS} : ∀ (n : Nat) (s : JS) (x2 : Int32) (x3 : Int32) (x4 : Int32), kX0_guessThere_13L n s x2 x3 x4 = some (r, s') → BlkI l yX0_guessThere wsX0_guessThere ({ frames := 3, cells := 0, slots := 0, locals := 71 }) cX0_guessThere 5 (some .int) (dC, dI) (tysA cB cI cJ cZ cS) as 13 (wJ cB cI cJ cZ cS a b s) [(0, .ref (a 35)), (1, .ref (b 0)), (2, .int x2), (3, .int x3), (4, .int x4)] [] (fun x u => x = r ∧ u = (wJ cB cI cJ cZ cS a b s')) := by
  intro n
  induction n with
  | zero => intro s x2 x3 x4 hB; exact none_ne hB
  | succ n ih => intro s x2 x3 x4 hB; exact bkX0_guessThere_13 ih _ _ _ _ hB
set_option maxHeartbeats 4000000 in
set_option maxRecDepth 100000 in
theorem bkX0_guessThere {l : Launch} {dC : Nat → ClassId} {dI : Nat → Nat → Nat} {cB cI cJ cZ cS : ClassId} {a b : Nat → Nat} {as : List Value} {r : Int32} {s' : JS} (s : JS) (x2 : Int32) (hB : kX0_guessThere s x2 = some (r, s')) : BlkI l yX0_guessThere wsX0_guessThere ({ frames := 3, cells := 0, slots := 0, locals := 71 }) cX0_guessThere 5 (some .int) (dC, dI) (tysA cB cI cJ cZ cS) as 0 (wJ cB cI cJ cZ cS a b s) [(0, .ref (a 35)), (1, .ref (b 0)), (2, .int x2)] [] (fun x u => x = r ∧ u = (wJ cB cI cJ cZ cS a b s')) := by
  intro p e s0 m below meth c A E H locs ls hP hD hS hl
  obtain ⟨C, hr, hlocks, hA, hK, hN⟩ := id E
  obtain ⟨hx, hb, hml, hown, hts⟩ := id C
  unfold kX0_guessThere at hB
  refine lv_iconst (v := 0) hx hb dX0_guessThere_0 (by decide) ?_
  refine lv_istore_n (lv' := [(3, .int 0), (0, .ref (a 35)), (1, .ref (b 0)), (2, .int x2)]) hx hb dX0_guessThere_1 rfl hl (by decide) rfl (fun ls hl => ?_)
  refine lv_aload_n hx hb dX0_guessThere_2 rfl (lv_at hl 1 rfl) ?_
  refine q_get (v := .ref (a 2)) C inX0_guessThere_X0 hK hP 41 rfl rfl 0 (by decide) rfl LX0_guessThere_9 rfl dX0_guessThere_3 ?_
  refine q_getN (v := .int (s.k.v 1)) C hN inX0_guessThere_X5 hK hP 8 rfl rfl 6 (by decide) rfl nwF_X0_50 rfl dX0_guessThere_6 ?_
  refine lv_iconst (v := 1) hx hb dX0_guessThere_9 (by decide) ?_
  refine lv_isub hx hb dX0_guessThere_10 ?_
  refine lv_istore (lv' := [(4, .int ((s.k.v 1) - 1)), (3, .int 0), (0, .ref (a 35)), (1, .ref (b 0)), (2, .int x2)]) hx hb dX0_guessThere_11 hl (by decide) rfl (fun ls hl => ?_)
  exact bkX0_guessThere_13L fu _ _ _ _ hB p e s0 m below meth c A E H locs ls hP hD hS (lv_sub hl [2, 3, 4, 1, 0] rfl)
theorem ckX0_guessThere {l : Launch} {dC : Nat → ClassId} {dI : Nat → Nat → Nat} {cB cI cJ cZ cS : ClassId} {a b : Nat → Nat} {r : Int32} {s' : JS} {s : JS} {x2 : Int32} (hB : kX0_guessThere s x2 = some (r, s')) : CI l yX0_guessThere wsX0_guessThere ({ frames := 3, cells := 0, slots := 0, locals := 71 }) (dC, dI) (tysA cB cI cJ cZ cS) (wJ cB cI cJ cZ cS a b s) [.ref (a 35), .ref (b 0), .int x2] (fun x u => x = r ∧ u = (wJ cB cI cJ cZ cS a b s')) :=
  CI_of (cc := cX0_guessThere) (maxL := 5) (ret := (some .int)) (by decide) rfl (Nat.le_of_ble_eq_true rfl) (bkX0_guessThere _ _ hB)
end
section
theorem ggX0_needOf_X0_clearVars : GoodIn wsX0_needOf wsX0_clearVars := gi_sub (fun w h => List.mem_cons_of_mem _ (List.mem_append_left _ (List.mem_append_left _ (List.mem_append_left _ (List.mem_append_left _ (List.mem_append_right _ (List.mem_append_left _ h))))))) gd_wsX0_clearVars
set_option maxRecDepth 20000 in
theorem gX0_needOf_X0_clearVars : GoodIn wsX0_needOf (wsV RX0 81 RX0 yX0_clearVars wsX0_clearVars) := goodIn_app (goodIn_r _ [3, 4, 5, 6] (by decide +kernel) (by decide +kernel)) ggX0_needOf_X0_clearVars
theorem ggX0_needOf_X0_setParty : GoodIn wsX0_needOf wsX0_setParty := gi_sub (fun w h => List.mem_cons_of_mem _ (List.mem_append_left _ (List.mem_append_left _ (List.mem_append_left _ (List.mem_append_left _ (List.mem_append_right _ (List.mem_append_right _ (List.mem_append_left _ h)))))))) gd_wsX0_setParty
set_option maxRecDepth 20000 in
theorem gX0_needOf_X0_setParty : GoodIn wsX0_needOf (wsV RX0 85 RX0 yX0_setParty wsX0_setParty) := goodIn_app (goodIn_r _ [7, 8, 9, 6] (by decide +kernel) (by decide +kernel)) ggX0_needOf_X0_setParty
theorem ggX0_needOf_X0_setWave : GoodIn wsX0_needOf wsX0_setWave := gi_sub (fun w h => List.mem_cons_of_mem _ (List.mem_append_left _ (List.mem_append_left _ (List.mem_append_left _ (List.mem_append_left _ (List.mem_append_right _ (List.mem_append_right _ (List.mem_append_right _ (List.mem_append_left _ h))))))))) gd_wsX0_setWave
set_option maxRecDepth 20000 in
theorem gX0_needOf_X0_setWave : GoodIn wsX0_needOf (wsV RX0 89 RX0 yX0_setWave wsX0_setWave) := goodIn_app (goodIn_r _ [10, 11, 12, 6] (by decide +kernel) (by decide +kernel)) ggX0_needOf_X0_setWave
theorem ggX0_needOf_X5_oddsAt : GoodIn wsX0_needOf wsX5_oddsAt := gi_sub (fun w h => List.mem_cons_of_mem _ (List.mem_append_left _ (List.mem_append_left _ (List.mem_append_left _ (List.mem_append_left _ (List.mem_append_right _ (List.mem_append_right _ (List.mem_append_right _ (List.mem_append_right _ (List.mem_append_left _ h)))))))))) gd_wsX5_oddsAt
set_option maxRecDepth 20000 in
theorem gX0_needOf_X5_oddsAt_n92 : GoodIn wsX0_needOf (wsX5_oddsAt) := ggX0_needOf_X5_oddsAt
theorem ggX0_needOf_X1_valueOf : GoodIn wsX0_needOf wsX1_valueOf := gi_sub (fun w h => List.mem_cons_of_mem _ (List.mem_append_left _ (List.mem_append_left _ (List.mem_append_left _ (List.mem_append_left _ (List.mem_append_right _ (List.mem_append_right _ (List.mem_append_right _ (List.mem_append_right _ (List.mem_append_right _ (List.mem_append_left _ h))))))))))) gd_wsX1_valueOf
set_option maxRecDepth 20000 in
theorem gX0_needOf_X1_valueOf_n96 : GoodIn wsX0_needOf (wsX1_valueOf) := ggX0_needOf_X1_valueOf
theorem ggX0_needOf_X10_heldTo : GoodIn wsX0_needOf wsX10_heldTo := gi_sub (fun w h => List.mem_cons_of_mem _ (List.mem_append_left _ (List.mem_append_left _ (List.mem_append_left _ (List.mem_append_left _ (List.mem_append_right _ (List.mem_append_right _ (List.mem_append_right _ (List.mem_append_right _ (List.mem_append_right _ (List.mem_append_right _ h))))))))))) gd_wsX10_heldTo
set_option maxRecDepth 20000 in
theorem gX0_needOf_X10_heldTo_n99 : GoodIn wsX0_needOf (wsX10_heldTo) := ggX0_needOf_X10_heldTo
theorem dX0_needOf_0 : decode cX0_needOf 0 = .ok (.aload_n 0, 1) := dc1_42 (by decide +kernel)
theorem dX0_needOf_1 : decode cX0_needOf 1 = .ok (.aload_n 1, 1) := dc1_43 (by decide +kernel)
theorem dX0_needOf_2 : decode cX0_needOf 2 = .ok (.invokevirtual 81, 3) := dcw_182 (by decide +kernel)
theorem dX0_needOf_5 : decode cX0_needOf 5 = .ok (.aload_n 0, 1) := dc1_42 (by decide +kernel)
theorem dX0_needOf_6 : decode cX0_needOf 6 = .ok (.aload_n 1, 1) := dc1_43 (by decide +kernel)
theorem dX0_needOf_7 : decode cX0_needOf 7 = .ok (.iload_n 2, 1) := dc1_28 (by decide +kernel)
theorem dX0_needOf_8 : decode cX0_needOf 8 = .ok (.invokevirtual 85, 3) := dcw_182 (by decide +kernel)
theorem dX0_needOf_11 : decode cX0_needOf 11 = .ok (.aload_n 0, 1) := dc1_42 (by decide +kernel)
theorem dX0_needOf_12 : decode cX0_needOf 12 = .ok (.aload_n 1, 1) := dc1_43 (by decide +kernel)
theorem dX0_needOf_13 : decode cX0_needOf 13 = .ok (.iload_n 3, 1) := dc1_29 (by decide +kernel)
theorem dX0_needOf_14 : decode cX0_needOf 14 = .ok (.invokevirtual 89, 3) := dcw_182 (by decide +kernel)
theorem dX0_needOf_17 : decode cX0_needOf 17 = .ok (.aload_n 0, 1) := dc1_42 (by decide +kernel)
theorem dX0_needOf_18 : decode cX0_needOf 18 = .ok (.getfield 27, 3) := dcw_180 (by decide +kernel)
theorem dX0_needOf_21 : decode cX0_needOf 21 = .ok (.iconst 1, 1) := dc1_4 (by decide +kernel)
theorem dX0_needOf_22 : decode cX0_needOf 22 = .ok (.aload_n 0, 1) := dc1_42 (by decide +kernel)
theorem dX0_needOf_23 : decode cX0_needOf 23 = .ok (.getfield 9, 3) := dcw_180 (by decide +kernel)
theorem dX0_needOf_26 : decode cX0_needOf 26 = .ok (.iload_n 3, 1) := dc1_29 (by decide +kernel)
theorem dX0_needOf_27 : decode cX0_needOf 27 = .ok (.iload 4, 2) := dcu_21 (by decide +kernel)
theorem dX0_needOf_29 : decode cX0_needOf 29 = .ok (.invokevirtual 92, 3) := dcw_182 (by decide +kernel)
theorem dX0_needOf_32 : decode cX0_needOf 32 = .ok (.iastore, 1) := dc1_79 (by decide +kernel)
theorem dX0_needOf_33 : decode cX0_needOf 33 = .ok (.bipush 9, 2) := dcb_16 (n := 9) (by decide +kernel)
theorem dX0_needOf_35 : decode cX0_needOf 35 = .ok (.aload_n 0, 1) := dc1_42 (by decide +kernel)
theorem dX0_needOf_36 : decode cX0_needOf 36 = .ok (.getfield 9, 3) := dcw_180 (by decide +kernel)
theorem dX0_needOf_39 : decode cX0_needOf 39 = .ok (.getfield 15, 3) := dcw_180 (by decide +kernel)
theorem dX0_needOf_42 : decode cX0_needOf 42 = .ok (.iconst 0, 1) := dc1_3 (by decide +kernel)
theorem dX0_needOf_43 : decode cX0_needOf 43 = .ok (.invokevirtual 96, 3) := dcw_182 (by decide +kernel)
theorem dX0_needOf_46 : decode cX0_needOf 46 = .ok (.invokestatic 99, 3) := dcw_184 (by decide +kernel)
theorem dX0_needOf_49 : decode cX0_needOf 49 = .ok (.ireturn, 1) := dc1_172 (by decide +kernel)
theorem ggX0_isBearing_X5_oddsAt : GoodIn wsX0_isBearing wsX5_oddsAt := gi_sub (fun w h => List.mem_cons_of_mem _ (List.mem_append_left _ (List.mem_append_left _ (List.mem_append_left _ (List.mem_append_left _ (List.mem_append_right _ (List.mem_append_left _ h))))))) gd_wsX5_oddsAt
set_option maxRecDepth 20000 in
theorem gX0_isBearing_X5_oddsAt_n92 : GoodIn wsX0_isBearing (wsX5_oddsAt) := ggX0_isBearing_X5_oddsAt
theorem ggX0_isBearing_X0_needOf : GoodIn wsX0_isBearing wsX0_needOf := gi_sub (fun w h => List.mem_cons_of_mem _ (List.mem_append_left _ (List.mem_append_left _ (List.mem_append_left _ (List.mem_append_left _ (List.mem_append_right _ (List.mem_append_right _ h))))))) gd_wsX0_needOf
set_option maxRecDepth 20000 in
theorem gX0_isBearing_X0_needOf : GoodIn wsX0_isBearing (wsV RX0 102 RX0 yX0_needOf wsX0_needOf) := goodIn_app (goodIn_r _ [5, 6, 7, 8] (by decide +kernel) (by decide +kernel)) ggX0_isBearing_X0_needOf
theorem dX0_isBearing_0 : decode cX0_isBearing 0 = .ok (.aload_n 0, 1) := dc1_42 (by decide +kernel)
theorem dX0_isBearing_1 : decode cX0_isBearing 1 = .ok (.getfield 9, 3) := dcw_180 (by decide +kernel)
theorem dX0_isBearing_4 : decode cX0_isBearing 4 = .ok (.iload_n 3, 1) := dc1_29 (by decide +kernel)
theorem dX0_isBearing_5 : decode cX0_isBearing 5 = .ok (.iload 4, 2) := dcu_21 (by decide +kernel)
theorem dX0_isBearing_7 : decode cX0_isBearing 7 = .ok (.invokevirtual 92, 3) := dcw_182 (by decide +kernel)
theorem dX0_isBearing_10 : decode cX0_isBearing 10 = .ok (.aload_n 0, 1) := dc1_42 (by decide +kernel)
theorem dX0_isBearing_11 : decode cX0_isBearing 11 = .ok (.aload_n 1, 1) := dc1_43 (by decide +kernel)
theorem dX0_isBearing_12 : decode cX0_isBearing 12 = .ok (.iload_n 2, 1) := dc1_28 (by decide +kernel)
theorem dX0_isBearing_13 : decode cX0_isBearing 13 = .ok (.iload_n 3, 1) := dc1_29 (by decide +kernel)
theorem dX0_isBearing_14 : decode cX0_isBearing 14 = .ok (.iload 4, 2) := dcu_21 (by decide +kernel)
theorem dX0_isBearing_16 : decode cX0_isBearing 16 = .ok (.invokevirtual 102, 3) := dcw_182 (by decide +kernel)
theorem dX0_isBearing_19 : decode cX0_isBearing 19 = .ok (.if_icmp .lt 7, 3) := dcs_161 (n := 7) (by decide +kernel)
theorem dX0_isBearing_22 : decode cX0_isBearing 22 = .ok (.iconst 1, 1) := dc1_4 (by decide +kernel)
theorem dX0_isBearing_23 : decode cX0_isBearing 23 = .ok (.goto 4, 3) := dcs_167 (n := 4) (by decide +kernel)
theorem dX0_isBearing_26 : decode cX0_isBearing 26 = .ok (.iconst 0, 1) := dc1_3 (by decide +kernel)
theorem dX0_isBearing_27 : decode cX0_isBearing 27 = .ok (.ireturn, 1) := dc1_172 (by decide +kernel)
theorem ggX0_fareOf_X0_clearVars : GoodIn wsX0_fareOf wsX0_clearVars := gi_sub (fun w h => List.mem_cons_of_mem _ (List.mem_append_left _ (List.mem_append_left _ (List.mem_append_left _ (List.mem_append_left _ (List.mem_append_right _ (List.mem_append_left _ h))))))) gd_wsX0_clearVars
set_option maxRecDepth 20000 in
theorem gX0_fareOf_X0_clearVars : GoodIn wsX0_fareOf (wsV RX0 81 RX0 yX0_clearVars wsX0_clearVars) := goodIn_app (goodIn_r _ [2, 3, 4, 5] (by decide +kernel) (by decide +kernel)) ggX0_fareOf_X0_clearVars
theorem ggX0_fareOf_X0_setParty : GoodIn wsX0_fareOf wsX0_setParty := gi_sub (fun w h => List.mem_cons_of_mem _ (List.mem_append_left _ (List.mem_append_left _ (List.mem_append_left _ (List.mem_append_left _ (List.mem_append_right _ (List.mem_append_right _ (List.mem_append_left _ h)))))))) gd_wsX0_setParty
set_option maxRecDepth 20000 in
theorem gX0_fareOf_X0_setParty : GoodIn wsX0_fareOf (wsV RX0 85 RX0 yX0_setParty wsX0_setParty) := goodIn_app (goodIn_r _ [6, 7, 8, 5] (by decide +kernel) (by decide +kernel)) ggX0_fareOf_X0_setParty
theorem ggX0_fareOf_X1_valueOf : GoodIn wsX0_fareOf wsX1_valueOf := gi_sub (fun w h => List.mem_cons_of_mem _ (List.mem_append_left _ (List.mem_append_left _ (List.mem_append_left _ (List.mem_append_left _ (List.mem_append_right _ (List.mem_append_right _ (List.mem_append_right _ (List.mem_append_left _ h))))))))) gd_wsX1_valueOf
set_option maxRecDepth 20000 in
theorem gX0_fareOf_X1_valueOf_n96 : GoodIn wsX0_fareOf (wsX1_valueOf) := ggX0_fareOf_X1_valueOf
theorem ggX0_fareOf_X10_heldTo : GoodIn wsX0_fareOf wsX10_heldTo := gi_sub (fun w h => List.mem_cons_of_mem _ (List.mem_append_left _ (List.mem_append_left _ (List.mem_append_left _ (List.mem_append_left _ (List.mem_append_right _ (List.mem_append_right _ (List.mem_append_right _ (List.mem_append_right _ h))))))))) gd_wsX10_heldTo
set_option maxRecDepth 20000 in
theorem gX0_fareOf_X10_heldTo_n99 : GoodIn wsX0_fareOf (wsX10_heldTo) := ggX0_fareOf_X10_heldTo
theorem dX0_fareOf_0 : decode cX0_fareOf 0 = .ok (.aload_n 0, 1) := dc1_42 (by decide +kernel)
theorem dX0_fareOf_1 : decode cX0_fareOf 1 = .ok (.aload_n 1, 1) := dc1_43 (by decide +kernel)
theorem dX0_fareOf_2 : decode cX0_fareOf 2 = .ok (.invokevirtual 81, 3) := dcw_182 (by decide +kernel)
theorem dX0_fareOf_5 : decode cX0_fareOf 5 = .ok (.aload_n 0, 1) := dc1_42 (by decide +kernel)
theorem dX0_fareOf_6 : decode cX0_fareOf 6 = .ok (.aload_n 1, 1) := dc1_43 (by decide +kernel)
theorem dX0_fareOf_7 : decode cX0_fareOf 7 = .ok (.iload_n 2, 1) := dc1_28 (by decide +kernel)
theorem dX0_fareOf_8 : decode cX0_fareOf 8 = .ok (.invokevirtual 85, 3) := dcw_182 (by decide +kernel)
theorem dX0_fareOf_11 : decode cX0_fareOf 11 = .ok (.bipush 99, 2) := dcb_16 (n := 99) (by decide +kernel)
theorem dX0_fareOf_13 : decode cX0_fareOf 13 = .ok (.aload_n 0, 1) := dc1_42 (by decide +kernel)
theorem dX0_fareOf_14 : decode cX0_fareOf 14 = .ok (.getfield 9, 3) := dcw_180 (by decide +kernel)
theorem dX0_fareOf_17 : decode cX0_fareOf 17 = .ok (.getfield 15, 3) := dcw_180 (by decide +kernel)
theorem dX0_fareOf_20 : decode cX0_fareOf 20 = .ok (.iconst 1, 1) := dc1_4 (by decide +kernel)
theorem dX0_fareOf_21 : decode cX0_fareOf 21 = .ok (.invokevirtual 96, 3) := dcw_182 (by decide +kernel)
theorem dX0_fareOf_24 : decode cX0_fareOf 24 = .ok (.invokestatic 99, 3) := dcw_184 (by decide +kernel)
theorem dX0_fareOf_27 : decode cX0_fareOf 27 = .ok (.ireturn, 1) := dc1_172 (by decide +kernel)
theorem ggX0_isDaring_X0_clearVars : GoodIn wsX0_isDaring wsX0_clearVars := gi_sub (fun w h => List.mem_cons_of_mem _ (List.mem_append_left _ (List.mem_append_left _ (List.mem_append_left _ (List.mem_append_left _ (List.mem_append_right _ (List.mem_append_left _ h))))))) gd_wsX0_clearVars
set_option maxRecDepth 20000 in
theorem gX0_isDaring_X0_clearVars : GoodIn wsX0_isDaring (wsV RX0 81 RX0 yX0_clearVars wsX0_clearVars) := goodIn_app (goodIn_r _ [2, 3, 4, 5] (by decide +kernel) (by decide +kernel)) ggX0_isDaring_X0_clearVars
theorem ggX0_isDaring_X0_setParty : GoodIn wsX0_isDaring wsX0_setParty := gi_sub (fun w h => List.mem_cons_of_mem _ (List.mem_append_left _ (List.mem_append_left _ (List.mem_append_left _ (List.mem_append_left _ (List.mem_append_right _ (List.mem_append_right _ (List.mem_append_left _ h)))))))) gd_wsX0_setParty
set_option maxRecDepth 20000 in
theorem gX0_isDaring_X0_setParty : GoodIn wsX0_isDaring (wsV RX0 85 RX0 yX0_setParty wsX0_setParty) := goodIn_app (goodIn_r _ [6, 7, 8, 5] (by decide +kernel) (by decide +kernel)) ggX0_isDaring_X0_setParty
theorem ggX0_isDaring_X1_valueOf : GoodIn wsX0_isDaring wsX1_valueOf := gi_sub (fun w h => List.mem_cons_of_mem _ (List.mem_append_left _ (List.mem_append_left _ (List.mem_append_left _ (List.mem_append_left _ (List.mem_append_right _ (List.mem_append_right _ (List.mem_append_right _ h)))))))) gd_wsX1_valueOf
set_option maxRecDepth 20000 in
theorem gX0_isDaring_X1_valueOf_n96 : GoodIn wsX0_isDaring (wsX1_valueOf) := ggX0_isDaring_X1_valueOf
theorem dX0_isDaring_0 : decode cX0_isDaring 0 = .ok (.aload_n 0, 1) := dc1_42 (by decide +kernel)
theorem dX0_isDaring_1 : decode cX0_isDaring 1 = .ok (.aload_n 1, 1) := dc1_43 (by decide +kernel)
theorem dX0_isDaring_2 : decode cX0_isDaring 2 = .ok (.invokevirtual 81, 3) := dcw_182 (by decide +kernel)
theorem dX0_isDaring_5 : decode cX0_isDaring 5 = .ok (.aload_n 0, 1) := dc1_42 (by decide +kernel)
theorem dX0_isDaring_6 : decode cX0_isDaring 6 = .ok (.aload_n 1, 1) := dc1_43 (by decide +kernel)
theorem dX0_isDaring_7 : decode cX0_isDaring 7 = .ok (.iload_n 2, 1) := dc1_28 (by decide +kernel)
theorem dX0_isDaring_8 : decode cX0_isDaring 8 = .ok (.invokevirtual 85, 3) := dcw_182 (by decide +kernel)
theorem dX0_isDaring_11 : decode cX0_isDaring 11 = .ok (.aload_n 0, 1) := dc1_42 (by decide +kernel)
theorem dX0_isDaring_12 : decode cX0_isDaring 12 = .ok (.getfield 9, 3) := dcw_180 (by decide +kernel)
theorem dX0_isDaring_15 : decode cX0_isDaring 15 = .ok (.getfield 15, 3) := dcw_180 (by decide +kernel)
theorem dX0_isDaring_18 : decode cX0_isDaring 18 = .ok (.iconst 2, 1) := dc1_5 (by decide +kernel)
theorem dX0_isDaring_19 : decode cX0_isDaring 19 = .ok (.invokevirtual 96, 3) := dcw_182 (by decide +kernel)
theorem dX0_isDaring_22 : decode cX0_isDaring 22 = .ok (.ifCond .le 7, 3) := dcs_158 (n := 7) (by decide +kernel)
theorem dX0_isDaring_25 : decode cX0_isDaring 25 = .ok (.iconst 1, 1) := dc1_4 (by decide +kernel)
theorem dX0_isDaring_26 : decode cX0_isDaring 26 = .ok (.goto 4, 3) := dcs_167 (n := 4) (by decide +kernel)
theorem dX0_isDaring_29 : decode cX0_isDaring 29 = .ok (.iconst 0, 1) := dc1_3 (by decide +kernel)
theorem dX0_isDaring_30 : decode cX0_isDaring 30 = .ok (.ireturn, 1) := dc1_172 (by decide +kernel)
theorem ggX0_shiftsOf_X0_clearVars : GoodIn wsX0_shiftsOf wsX0_clearVars := gi_sub (fun w h => List.mem_cons_of_mem _ (List.mem_append_left _ (List.mem_append_left _ (List.mem_append_left _ (List.mem_append_left _ (List.mem_append_right _ (List.mem_append_left _ h))))))) gd_wsX0_clearVars
set_option maxRecDepth 20000 in
theorem gX0_shiftsOf_X0_clearVars : GoodIn wsX0_shiftsOf (wsV RX0 81 RX0 yX0_clearVars wsX0_clearVars) := goodIn_app (goodIn_r _ [2, 3, 4, 5] (by decide +kernel) (by decide +kernel)) ggX0_shiftsOf_X0_clearVars
theorem ggX0_shiftsOf_X0_setWave : GoodIn wsX0_shiftsOf wsX0_setWave := gi_sub (fun w h => List.mem_cons_of_mem _ (List.mem_append_left _ (List.mem_append_left _ (List.mem_append_left _ (List.mem_append_left _ (List.mem_append_right _ (List.mem_append_right _ (List.mem_append_left _ h)))))))) gd_wsX0_setWave
set_option maxRecDepth 20000 in
theorem gX0_shiftsOf_X0_setWave : GoodIn wsX0_shiftsOf (wsV RX0 89 RX0 yX0_setWave wsX0_setWave) := goodIn_app (goodIn_r _ [6, 7, 8, 5] (by decide +kernel) (by decide +kernel)) ggX0_shiftsOf_X0_setWave
theorem ggX0_shiftsOf_X1_valueOf : GoodIn wsX0_shiftsOf wsX1_valueOf := gi_sub (fun w h => List.mem_cons_of_mem _ (List.mem_append_left _ (List.mem_append_left _ (List.mem_append_left _ (List.mem_append_left _ (List.mem_append_right _ (List.mem_append_right _ (List.mem_append_right _ (List.mem_append_left _ h))))))))) gd_wsX1_valueOf
set_option maxRecDepth 20000 in
theorem gX0_shiftsOf_X1_valueOf_n96 : GoodIn wsX0_shiftsOf (wsX1_valueOf) := ggX0_shiftsOf_X1_valueOf
theorem ggX0_shiftsOf_X10_heldTo : GoodIn wsX0_shiftsOf wsX10_heldTo := gi_sub (fun w h => List.mem_cons_of_mem _ (List.mem_append_left _ (List.mem_append_left _ (List.mem_append_left _ (List.mem_append_left _ (List.mem_append_right _ (List.mem_append_right _ (List.mem_append_right _ (List.mem_append_right _ h))))))))) gd_wsX10_heldTo
set_option maxRecDepth 20000 in
theorem gX0_shiftsOf_X10_heldTo_n99 : GoodIn wsX0_shiftsOf (wsX10_heldTo) := ggX0_shiftsOf_X10_heldTo
theorem dX0_shiftsOf_0 : decode cX0_shiftsOf 0 = .ok (.aload_n 0, 1) := dc1_42 (by decide +kernel)
theorem dX0_shiftsOf_1 : decode cX0_shiftsOf 1 = .ok (.aload_n 1, 1) := dc1_43 (by decide +kernel)
theorem dX0_shiftsOf_2 : decode cX0_shiftsOf 2 = .ok (.invokevirtual 81, 3) := dcw_182 (by decide +kernel)
theorem dX0_shiftsOf_5 : decode cX0_shiftsOf 5 = .ok (.aload_n 0, 1) := dc1_42 (by decide +kernel)
theorem dX0_shiftsOf_6 : decode cX0_shiftsOf 6 = .ok (.aload_n 1, 1) := dc1_43 (by decide +kernel)
theorem dX0_shiftsOf_7 : decode cX0_shiftsOf 7 = .ok (.iload_n 2, 1) := dc1_28 (by decide +kernel)
theorem dX0_shiftsOf_8 : decode cX0_shiftsOf 8 = .ok (.invokevirtual 89, 3) := dcw_182 (by decide +kernel)
theorem dX0_shiftsOf_11 : decode cX0_shiftsOf 11 = .ok (.bipush 100, 2) := dcb_16 (n := 100) (by decide +kernel)
theorem dX0_shiftsOf_13 : decode cX0_shiftsOf 13 = .ok (.aload_n 0, 1) := dc1_42 (by decide +kernel)
theorem dX0_shiftsOf_14 : decode cX0_shiftsOf 14 = .ok (.getfield 9, 3) := dcw_180 (by decide +kernel)
theorem dX0_shiftsOf_17 : decode cX0_shiftsOf 17 = .ok (.getfield 15, 3) := dcw_180 (by decide +kernel)
theorem dX0_shiftsOf_20 : decode cX0_shiftsOf 20 = .ok (.iconst 3, 1) := dc1_6 (by decide +kernel)
theorem dX0_shiftsOf_21 : decode cX0_shiftsOf 21 = .ok (.invokevirtual 96, 3) := dcw_182 (by decide +kernel)
theorem dX0_shiftsOf_24 : decode cX0_shiftsOf 24 = .ok (.invokestatic 99, 3) := dcw_184 (by decide +kernel)
theorem dX0_shiftsOf_27 : decode cX0_shiftsOf 27 = .ok (.ireturn, 1) := dc1_172 (by decide +kernel)
theorem ggX0_sendBy_X0_fareOf : GoodIn wsX0_sendBy wsX0_fareOf := gi_sub (fun w h => List.mem_cons_of_mem _ (List.mem_append_left _ (List.mem_append_left _ (List.mem_append_left _ (List.mem_append_left _ (List.mem_append_right _ (List.mem_append_left _ h))))))) gd_wsX0_fareOf
set_option maxRecDepth 20000 in
theorem gX0_sendBy_X0_fareOf : GoodIn wsX0_sendBy (wsV RX0 109 RX0 yX0_fareOf wsX0_fareOf) := goodIn_app (goodIn_r _ [2, 3, 4, 5] (by decide +kernel) (by decide +kernel)) ggX0_sendBy_X0_fareOf
theorem ggX0_sendBy_X10_thingIn : GoodIn wsX0_sendBy wsX10_thingIn := gi_sub (fun w h => List.mem_cons_of_mem _ (List.mem_append_left _ (List.mem_append_left _ (List.mem_append_left _ (List.mem_append_left _ (List.mem_append_right _ (List.mem_append_right _ (List.mem_append_left _ h)))))))) gd_wsX10_thingIn
set_option maxRecDepth 20000 in
theorem gX0_sendBy_X10_thingIn_n112 : GoodIn wsX0_sendBy (wsX10_thingIn) := ggX0_sendBy_X10_thingIn
theorem ggX0_sendBy_X0_isBearing : GoodIn wsX0_sendBy wsX0_isBearing := gi_sub (fun w h => List.mem_cons_of_mem _ (List.mem_append_left _ (List.mem_append_left _ (List.mem_append_left _ (List.mem_append_left _ (List.mem_append_right _ (List.mem_append_right _ (List.mem_append_right _ (List.mem_append_left _ h))))))))) gd_wsX0_isBearing
set_option maxRecDepth 20000 in
theorem gX0_sendBy_X0_isBearing : GoodIn wsX0_sendBy (wsV RX0 115 RX0 yX0_isBearing wsX0_isBearing) := goodIn_app (goodIn_r _ [8, 9, 10, 5] (by decide +kernel) (by decide +kernel)) ggX0_sendBy_X0_isBearing
theorem ggX0_sendBy_X0_thereNow : GoodIn wsX0_sendBy wsX0_thereNow := gi_sub (fun w h => List.mem_cons_of_mem _ (List.mem_append_left _ (List.mem_append_left _ (List.mem_append_left _ (List.mem_append_left _ (List.mem_append_right _ (List.mem_append_right _ (List.mem_append_right _ (List.mem_append_right _ h))))))))) gd_wsX0_thereNow
set_option maxRecDepth 20000 in
theorem gX0_sendBy_X0_thereNow : GoodIn wsX0_sendBy (wsV RX0 119 RX0 yX0_thereNow wsX0_thereNow) := goodIn_app (goodIn_r _ [11, 12, 13, 5] (by decide +kernel) (by decide +kernel)) ggX0_sendBy_X0_thereNow
theorem dX0_sendBy_0 : decode cX0_sendBy 0 = .ok (.aload_n 1, 1) := dc1_43 (by decide +kernel)
theorem dX0_sendBy_1 : decode cX0_sendBy 1 = .ok (.dup, 1) := dc1_89 (by decide +kernel)
theorem dX0_sendBy_2 : decode cX0_sendBy 2 = .ok (.getfield 106, 3) := dcw_180 (by decide +kernel)
theorem dX0_sendBy_5 : decode cX0_sendBy 5 = .ok (.aload_n 0, 1) := dc1_42 (by decide +kernel)
theorem dX0_sendBy_6 : decode cX0_sendBy 6 = .ok (.aload_n 1, 1) := dc1_43 (by decide +kernel)
theorem dX0_sendBy_7 : decode cX0_sendBy 7 = .ok (.iload_n 2, 1) := dc1_28 (by decide +kernel)
theorem dX0_sendBy_8 : decode cX0_sendBy 8 = .ok (.invokevirtual 109, 3) := dcw_182 (by decide +kernel)
theorem dX0_sendBy_11 : decode cX0_sendBy 11 = .ok (.iadd, 1) := dc1_96 (by decide +kernel)
theorem dX0_sendBy_12 : decode cX0_sendBy 12 = .ok (.putfield 106, 3) := dcw_181 (by decide +kernel)
theorem dX0_sendBy_15 : decode cX0_sendBy 15 = .ok (.iconst 2, 1) := dc1_5 (by decide +kernel)
theorem dX0_sendBy_16 : decode cX0_sendBy 16 = .ok (.istore 4, 2) := dcu_54 (by decide +kernel)
theorem dX0_sendBy_18 : decode cX0_sendBy 18 = .ok (.iconst 0, 1) := dc1_3 (by decide +kernel)
theorem dX0_sendBy_19 : decode cX0_sendBy 19 = .ok (.istore 5, 2) := dcu_54 (by decide +kernel)
theorem dX0_sendBy_21 : decode cX0_sendBy 21 = .ok (.iconst 0, 1) := dc1_3 (by decide +kernel)
theorem dX0_sendBy_22 : decode cX0_sendBy 22 = .ok (.istore 6, 2) := dcu_54 (by decide +kernel)
theorem dX0_sendBy_24 : decode cX0_sendBy 24 = .ok (.iload 6, 2) := dcu_21 (by decide +kernel)
theorem dX0_sendBy_26 : decode cX0_sendBy 26 = .ok (.aload_n 0, 1) := dc1_42 (by decide +kernel)
theorem dX0_sendBy_27 : decode cX0_sendBy 27 = .ok (.getfield 9, 3) := dcw_180 (by decide +kernel)
theorem dX0_sendBy_30 : decode cX0_sendBy 30 = .ok (.getfield 50, 3) := dcw_180 (by decide +kernel)
theorem dX0_sendBy_33 : decode cX0_sendBy 33 = .ok (.if_icmp .ge 86, 3) := dcs_162 (n := 86) (by decide +kernel)
theorem dX0_sendBy_36 : decode cX0_sendBy 36 = .ok (.iload 4, 2) := dcu_21 (by decide +kernel)
theorem dX0_sendBy_38 : decode cX0_sendBy 38 = .ok (.iconst 2, 1) := dc1_5 (by decide +kernel)
theorem dX0_sendBy_39 : decode cX0_sendBy 39 = .ok (.if_icmp .ne 80, 3) := dcs_160 (n := 80) (by decide +kernel)
theorem dX0_sendBy_42 : decode cX0_sendBy 42 = .ok (.iload_n 3, 1) := dc1_29 (by decide +kernel)
theorem dX0_sendBy_43 : decode cX0_sendBy 43 = .ok (.iload 6, 2) := dcu_21 (by decide +kernel)
theorem dX0_sendBy_45 : decode cX0_sendBy 45 = .ok (.invokestatic 112, 3) := dcw_184 (by decide +kernel)
theorem dX0_sendBy_48 : decode cX0_sendBy 48 = .ok (.istore 7, 2) := dcu_54 (by decide +kernel)
theorem dX0_sendBy_50 : decode cX0_sendBy 50 = .ok (.aload_n 0, 1) := dc1_42 (by decide +kernel)
theorem dX0_sendBy_51 : decode cX0_sendBy 51 = .ok (.aload_n 1, 1) := dc1_43 (by decide +kernel)
theorem dX0_sendBy_52 : decode cX0_sendBy 52 = .ok (.iload_n 2, 1) := dc1_28 (by decide +kernel)
theorem dX0_sendBy_53 : decode cX0_sendBy 53 = .ok (.iload 6, 2) := dcu_21 (by decide +kernel)
theorem dX0_sendBy_55 : decode cX0_sendBy 55 = .ok (.iload 7, 2) := dcu_21 (by decide +kernel)
theorem dX0_sendBy_57 : decode cX0_sendBy 57 = .ok (.invokevirtual 115, 3) := dcw_182 (by decide +kernel)
theorem dX0_sendBy_60 : decode cX0_sendBy 60 = .ok (.ifCond .ne 9, 3) := dcs_154 (n := 9) (by decide +kernel)
theorem dX0_sendBy_63 : decode cX0_sendBy 63 = .ok (.iconst 1, 1) := dc1_4 (by decide +kernel)
theorem dX0_sendBy_64 : decode cX0_sendBy 64 = .ok (.istore 4, 2) := dcu_54 (by decide +kernel)
theorem dX0_sendBy_66 : decode cX0_sendBy 66 = .ok (.goto 47, 3) := dcs_167 (n := 47) (by decide +kernel)
theorem dX0_sendBy_69 : decode cX0_sendBy 69 = .ok (.iload 7, 2) := dcu_21 (by decide +kernel)
theorem dX0_sendBy_71 : decode cX0_sendBy 71 = .ok (.aload_n 0, 1) := dc1_42 (by decide +kernel)
theorem dX0_sendBy_72 : decode cX0_sendBy 72 = .ok (.aload_n 1, 1) := dc1_43 (by decide +kernel)
theorem dX0_sendBy_73 : decode cX0_sendBy 73 = .ok (.iload 6, 2) := dcu_21 (by decide +kernel)
theorem dX0_sendBy_75 : decode cX0_sendBy 75 = .ok (.invokevirtual 119, 3) := dcw_182 (by decide +kernel)
theorem dX0_sendBy_78 : decode cX0_sendBy 78 = .ok (.if_icmp .eq 23, 3) := dcs_159 (n := 23) (by decide +kernel)
theorem dX0_sendBy_81 : decode cX0_sendBy 81 = .ok (.aload_n 1, 1) := dc1_43 (by decide +kernel)
theorem dX0_sendBy_82 : decode cX0_sendBy 82 = .ok (.getfield 36, 3) := dcw_180 (by decide +kernel)
theorem dX0_sendBy_85 : decode cX0_sendBy 85 = .ok (.iload 6, 2) := dcu_21 (by decide +kernel)
theorem dX0_sendBy_87 : decode cX0_sendBy 87 = .ok (.dup2, 1) := dc1_92 (by decide +kernel)
theorem dX0_sendBy_88 : decode cX0_sendBy 88 = .ok (.iaload, 1) := dc1_46 (by decide +kernel)
theorem dX0_sendBy_89 : decode cX0_sendBy 89 = .ok (.iconst 1, 1) := dc1_4 (by decide +kernel)
theorem dX0_sendBy_90 : decode cX0_sendBy 90 = .ok (.iload 7, 2) := dcu_21 (by decide +kernel)
theorem dX0_sendBy_92 : decode cX0_sendBy 92 = .ok (.ishl, 1) := dc1_120 (by decide +kernel)
theorem dX0_sendBy_93 : decode cX0_sendBy 93 = .ok (.ior, 1) := dc1_128 (by decide +kernel)
theorem dX0_sendBy_94 : decode cX0_sendBy 94 = .ok (.iastore, 1) := dc1_79 (by decide +kernel)
theorem dX0_sendBy_95 : decode cX0_sendBy 95 = .ok (.iconst 0, 1) := dc1_3 (by decide +kernel)
theorem dX0_sendBy_96 : decode cX0_sendBy 96 = .ok (.istore 4, 2) := dcu_54 (by decide +kernel)
theorem dX0_sendBy_98 : decode cX0_sendBy 98 = .ok (.goto 15, 3) := dcs_167 (n := 15) (by decide +kernel)
theorem dX0_sendBy_101 : decode cX0_sendBy 101 = .ok (.aload_n 1, 1) := dc1_43 (by decide +kernel)
theorem dX0_sendBy_102 : decode cX0_sendBy 102 = .ok (.getfield 28, 3) := dcw_180 (by decide +kernel)
theorem dX0_sendBy_105 : decode cX0_sendBy 105 = .ok (.iload 6, 2) := dcu_21 (by decide +kernel)
theorem dX0_sendBy_107 : decode cX0_sendBy 107 = .ok (.iload 7, 2) := dcu_21 (by decide +kernel)
theorem dX0_sendBy_109 : decode cX0_sendBy 109 = .ok (.iastore, 1) := dc1_79 (by decide +kernel)
theorem dX0_sendBy_110 : decode cX0_sendBy 110 = .ok (.iinc 5 1, 3) := dc_iinc (m := 1) (by decide +kernel)
theorem dX0_sendBy_113 : decode cX0_sendBy 113 = .ok (.iinc 6 1, 3) := dc_iinc (m := 1) (by decide +kernel)
theorem dX0_sendBy_116 : decode cX0_sendBy 116 = .ok (.goto (-92), 3) := dcs_167 (n := 65444) (by decide +kernel)
theorem dX0_sendBy_119 : decode cX0_sendBy 119 = .ok (.aload_n 1, 1) := dc1_43 (by decide +kernel)
theorem dX0_sendBy_120 : decode cX0_sendBy 120 = .ok (.getfield 122, 3) := dcw_180 (by decide +kernel)
theorem dX0_sendBy_123 : decode cX0_sendBy 123 = .ok (.iload_n 2, 1) := dc1_28 (by decide +kernel)
theorem dX0_sendBy_124 : decode cX0_sendBy 124 = .ok (.iload 4, 2) := dcu_21 (by decide +kernel)
theorem dX0_sendBy_126 : decode cX0_sendBy 126 = .ok (.iastore, 1) := dc1_79 (by decide +kernel)
theorem dX0_sendBy_127 : decode cX0_sendBy 127 = .ok (.aload_n 1, 1) := dc1_43 (by decide +kernel)
theorem dX0_sendBy_128 : decode cX0_sendBy 128 = .ok (.getfield 68, 3) := dcw_180 (by decide +kernel)
theorem dX0_sendBy_131 : decode cX0_sendBy 131 = .ok (.iload_n 2, 1) := dc1_28 (by decide +kernel)
theorem dX0_sendBy_132 : decode cX0_sendBy 132 = .ok (.dup2, 1) := dc1_92 (by decide +kernel)
theorem dX0_sendBy_133 : decode cX0_sendBy 133 = .ok (.iaload, 1) := dc1_46 (by decide +kernel)
theorem dX0_sendBy_134 : decode cX0_sendBy 134 = .ok (.iconst 1, 1) := dc1_4 (by decide +kernel)
theorem dX0_sendBy_135 : decode cX0_sendBy 135 = .ok (.iadd, 1) := dc1_96 (by decide +kernel)
theorem dX0_sendBy_136 : decode cX0_sendBy 136 = .ok (.iastore, 1) := dc1_79 (by decide +kernel)
theorem dX0_sendBy_137 : decode cX0_sendBy 137 = .ok (.iload 5, 2) := dcu_21 (by decide +kernel)
theorem dX0_sendBy_139 : decode cX0_sendBy 139 = .ok (.ireturn, 1) := dc1_172 (by decide +kernel)
theorem ggX0_passYearOver_X10_lot : GoodIn wsX0_passYearOver wsX10_lot := gi_sub (fun w h => List.mem_cons_of_mem _ (List.mem_append_left _ (List.mem_append_left _ (List.mem_append_left _ (List.mem_append_left _ (List.mem_append_right _ (List.mem_append_left _ h))))))) gd_wsX10_lot
set_option maxRecDepth 20000 in
theorem gX0_passYearOver_X10_lot_n129 : GoodIn wsX0_passYearOver (wsX10_lot) := ggX0_passYearOver_X10_lot
theorem ggX0_passYearOver_X0_shiftsOf : GoodIn wsX0_passYearOver wsX0_shiftsOf := gi_sub (fun w h => List.mem_cons_of_mem _ (List.mem_append_left _ (List.mem_append_left _ (List.mem_append_left _ (List.mem_append_left _ (List.mem_append_right _ (List.mem_append_right _ h))))))) gd_wsX0_shiftsOf
set_option maxRecDepth 20000 in
theorem gX0_passYearOver_X0_shiftsOf : GoodIn wsX0_passYearOver (wsV RX0 132 RX0 yX0_shiftsOf wsX0_shiftsOf) := goodIn_app (goodIn_r _ [5, 6, 7, 8] (by decide +kernel) (by decide +kernel)) ggX0_passYearOver_X0_shiftsOf
theorem dX0_passYearOver_0 : decode cX0_passYearOver 0 = .ok (.bipush 100, 2) := dcb_16 (n := 100) (by decide +kernel)
theorem dX0_passYearOver_2 : decode cX0_passYearOver 2 = .ok (.aload_n 0, 1) := dc1_42 (by decide +kernel)
theorem dX0_passYearOver_3 : decode cX0_passYearOver 3 = .ok (.getfield 9, 3) := dcw_180 (by decide +kernel)
theorem dX0_passYearOver_6 : decode cX0_passYearOver 6 = .ok (.getfield 42, 3) := dcw_180 (by decide +kernel)
theorem dX0_passYearOver_9 : decode cX0_passYearOver 9 = .ok (.bipush 8, 2) := dcb_16 (n := 8) (by decide +kernel)
theorem dX0_passYearOver_11 : decode cX0_passYearOver 11 = .ok (.aload_n 1, 1) := dc1_43 (by decide +kernel)
theorem dX0_passYearOver_12 : decode cX0_passYearOver 12 = .ok (.getfield 59, 3) := dcw_180 (by decide +kernel)
theorem dX0_passYearOver_15 : decode cX0_passYearOver 15 = .ok (.imul, 1) := dc1_104 (by decide +kernel)
theorem dX0_passYearOver_16 : decode cX0_passYearOver 16 = .ok (.ldc 128, 2) := dcu_18 (by decide +kernel)
theorem dX0_passYearOver_18 : decode cX0_passYearOver 18 = .ok (.iadd, 1) := dc1_96 (by decide +kernel)
theorem dX0_passYearOver_19 : decode cX0_passYearOver 19 = .ok (.iload_n 2, 1) := dc1_28 (by decide +kernel)
theorem dX0_passYearOver_20 : decode cX0_passYearOver 20 = .ok (.iadd, 1) := dc1_96 (by decide +kernel)
theorem dX0_passYearOver_21 : decode cX0_passYearOver 21 = .ok (.invokestatic 129, 3) := dcw_184 (by decide +kernel)
theorem dX0_passYearOver_24 : decode cX0_passYearOver 24 = .ok (.istore_n 3, 1) := dc1_62 (by decide +kernel)
theorem dX0_passYearOver_25 : decode cX0_passYearOver 25 = .ok (.iload_n 3, 1) := dc1_29 (by decide +kernel)
theorem dX0_passYearOver_26 : decode cX0_passYearOver 26 = .ok (.aload_n 0, 1) := dc1_42 (by decide +kernel)
theorem dX0_passYearOver_27 : decode cX0_passYearOver 27 = .ok (.aload_n 1, 1) := dc1_43 (by decide +kernel)
theorem dX0_passYearOver_28 : decode cX0_passYearOver 28 = .ok (.iload_n 2, 1) := dc1_28 (by decide +kernel)
theorem dX0_passYearOver_29 : decode cX0_passYearOver 29 = .ok (.invokevirtual 132, 3) := dcw_182 (by decide +kernel)
theorem dX0_passYearOver_32 : decode cX0_passYearOver 32 = .ok (.if_icmp .ge 27, 3) := dcs_162 (n := 27) (by decide +kernel)
theorem dX0_passYearOver_35 : decode cX0_passYearOver 35 = .ok (.aload_n 1, 1) := dc1_43 (by decide +kernel)
theorem dX0_passYearOver_36 : decode cX0_passYearOver 36 = .ok (.getfield 39, 3) := dcw_180 (by decide +kernel)
theorem dX0_passYearOver_39 : decode cX0_passYearOver 39 = .ok (.iload_n 2, 1) := dc1_28 (by decide +kernel)
theorem dX0_passYearOver_40 : decode cX0_passYearOver 40 = .ok (.dup2, 1) := dc1_92 (by decide +kernel)
theorem dX0_passYearOver_41 : decode cX0_passYearOver 41 = .ok (.iaload, 1) := dc1_46 (by decide +kernel)
theorem dX0_passYearOver_42 : decode cX0_passYearOver 42 = .ok (.iconst 1, 1) := dc1_4 (by decide +kernel)
theorem dX0_passYearOver_43 : decode cX0_passYearOver 43 = .ok (.iadd, 1) := dc1_96 (by decide +kernel)
theorem dX0_passYearOver_44 : decode cX0_passYearOver 44 = .ok (.iastore, 1) := dc1_79 (by decide +kernel)
theorem dX0_passYearOver_45 : decode cX0_passYearOver 45 = .ok (.aload_n 1, 1) := dc1_43 (by decide +kernel)
theorem dX0_passYearOver_46 : decode cX0_passYearOver 46 = .ok (.getfield 28, 3) := dcw_180 (by decide +kernel)
theorem dX0_passYearOver_49 : decode cX0_passYearOver 49 = .ok (.iload_n 2, 1) := dc1_28 (by decide +kernel)
theorem dX0_passYearOver_50 : decode cX0_passYearOver 50 = .ok (.iconst (-1), 1) := dc1_2 (by decide +kernel)
theorem dX0_passYearOver_51 : decode cX0_passYearOver 51 = .ok (.iastore, 1) := dc1_79 (by decide +kernel)
theorem dX0_passYearOver_52 : decode cX0_passYearOver 52 = .ok (.aload_n 1, 1) := dc1_43 (by decide +kernel)
theorem dX0_passYearOver_53 : decode cX0_passYearOver 53 = .ok (.getfield 36, 3) := dcw_180 (by decide +kernel)
theorem dX0_passYearOver_56 : decode cX0_passYearOver 56 = .ok (.iload_n 2, 1) := dc1_28 (by decide +kernel)
theorem dX0_passYearOver_57 : decode cX0_passYearOver 57 = .ok (.iconst 0, 1) := dc1_3 (by decide +kernel)
theorem dX0_passYearOver_58 : decode cX0_passYearOver 58 = .ok (.iastore, 1) := dc1_79 (by decide +kernel)
theorem dX0_passYearOver_59 : decode cX0_passYearOver 59 = .ok (.return_, 1) := dc1_177 (by decide +kernel)
theorem ggX2_bestThing_X2_oddsIfMay : GoodIn wsX2_bestThing wsX2_oddsIfMay := gi_sub (fun w h => List.mem_cons_of_mem _ (List.mem_append_left _ (List.mem_append_left _ (List.mem_append_left _ (List.mem_append_left _ (List.mem_append_left _ (List.mem_append_right _ (List.mem_append_left _ h)))))))) gd_wsX2_oddsIfMay
set_option maxRecDepth 20000 in
theorem gX2_bestThing_X2_oddsIfMay : GoodIn wsX2_bestThing (wsV RX2 53 RX2 yX2_oddsIfMay wsX2_oddsIfMay) := goodIn_app (goodIn_r _ [2, 3, 4, 5] (by decide +kernel) (by decide +kernel)) ggX2_bestThing_X2_oddsIfMay
theorem ggX2_bestThing_X0_needOf : GoodIn wsX2_bestThing wsX0_needOf := gi_sub (fun w h => List.mem_cons_of_mem _ (List.mem_append_left _ (List.mem_append_left _ (List.mem_append_left _ (List.mem_append_left _ (List.mem_append_left _ (List.mem_append_right _ (List.mem_append_right _ h)))))))) gd_wsX0_needOf
set_option maxRecDepth 20000 in
theorem gX2_bestThing_X0_needOf_n71 : GoodIn wsX2_bestThing (wsX0_needOf) := ggX2_bestThing_X0_needOf
theorem dX2_bestThing_0 : decode cX2_bestThing 0 = .ok (.iconst (-1), 1) := dc1_2 (by decide +kernel)
theorem dX2_bestThing_1 : decode cX2_bestThing 1 = .ok (.istore 4, 2) := dcu_54 (by decide +kernel)
theorem dX2_bestThing_3 : decode cX2_bestThing 3 = .ok (.iconst 0, 1) := dc1_3 (by decide +kernel)
theorem dX2_bestThing_4 : decode cX2_bestThing 4 = .ok (.istore 5, 2) := dcu_54 (by decide +kernel)
theorem dX2_bestThing_6 : decode cX2_bestThing 6 = .ok (.iconst 0, 1) := dc1_3 (by decide +kernel)
theorem dX2_bestThing_7 : decode cX2_bestThing 7 = .ok (.istore 6, 2) := dcu_54 (by decide +kernel)
theorem dX2_bestThing_9 : decode cX2_bestThing 9 = .ok (.iload 6, 2) := dcu_21 (by decide +kernel)
theorem dX2_bestThing_11 : decode cX2_bestThing 11 = .ok (.bipush 6, 2) := dcb_16 (n := 6) (by decide +kernel)
theorem dX2_bestThing_13 : decode cX2_bestThing 13 = .ok (.if_icmp .ge 56, 3) := dcs_162 (n := 56) (by decide +kernel)
theorem dX2_bestThing_16 : decode cX2_bestThing 16 = .ok (.aload_n 0, 1) := dc1_42 (by decide +kernel)
theorem dX2_bestThing_17 : decode cX2_bestThing 17 = .ok (.aload_n 1, 1) := dc1_43 (by decide +kernel)
theorem dX2_bestThing_18 : decode cX2_bestThing 18 = .ok (.iload_n 3, 1) := dc1_29 (by decide +kernel)
theorem dX2_bestThing_19 : decode cX2_bestThing 19 = .ok (.iload 6, 2) := dcu_21 (by decide +kernel)
theorem dX2_bestThing_21 : decode cX2_bestThing 21 = .ok (.invokevirtual 53, 3) := dcw_182 (by decide +kernel)
theorem dX2_bestThing_24 : decode cX2_bestThing 24 = .ok (.istore 7, 2) := dcu_54 (by decide +kernel)
theorem dX2_bestThing_26 : decode cX2_bestThing 26 = .ok (.iload 7, 2) := dcu_21 (by decide +kernel)
theorem dX2_bestThing_28 : decode cX2_bestThing 28 = .ok (.iload 5, 2) := dcu_21 (by decide +kernel)
theorem dX2_bestThing_30 : decode cX2_bestThing 30 = .ok (.if_icmp .le 33, 3) := dcs_164 (n := 33) (by decide +kernel)
theorem dX2_bestThing_33 : decode cX2_bestThing 33 = .ok (.iload_n 2, 1) := dc1_28 (by decide +kernel)
theorem dX2_bestThing_34 : decode cX2_bestThing 34 = .ok (.iconst (-1), 1) := dc1_2 (by decide +kernel)
theorem dX2_bestThing_35 : decode cX2_bestThing 35 = .ok (.if_icmp .eq 20, 3) := dcs_159 (n := 20) (by decide +kernel)
theorem dX2_bestThing_38 : decode cX2_bestThing 38 = .ok (.iload 7, 2) := dcu_21 (by decide +kernel)
theorem dX2_bestThing_40 : decode cX2_bestThing 40 = .ok (.aload_n 0, 1) := dc1_42 (by decide +kernel)
theorem dX2_bestThing_41 : decode cX2_bestThing 41 = .ok (.getfield 28, 3) := dcw_180 (by decide +kernel)
theorem dX2_bestThing_44 : decode cX2_bestThing 44 = .ok (.aload_n 1, 1) := dc1_43 (by decide +kernel)
theorem dX2_bestThing_45 : decode cX2_bestThing 45 = .ok (.iload_n 2, 1) := dc1_28 (by decide +kernel)
theorem dX2_bestThing_46 : decode cX2_bestThing 46 = .ok (.iload_n 3, 1) := dc1_29 (by decide +kernel)
theorem dX2_bestThing_47 : decode cX2_bestThing 47 = .ok (.iload 6, 2) := dcu_21 (by decide +kernel)
theorem dX2_bestThing_49 : decode cX2_bestThing 49 = .ok (.invokevirtual 71, 3) := dcw_182 (by decide +kernel)
theorem dX2_bestThing_52 : decode cX2_bestThing 52 = .ok (.if_icmp .lt 11, 3) := dcs_161 (n := 11) (by decide +kernel)
theorem dX2_bestThing_55 : decode cX2_bestThing 55 = .ok (.iload 6, 2) := dcu_21 (by decide +kernel)
theorem dX2_bestThing_57 : decode cX2_bestThing 57 = .ok (.istore 4, 2) := dcu_54 (by decide +kernel)
theorem dX2_bestThing_59 : decode cX2_bestThing 59 = .ok (.iload 7, 2) := dcu_21 (by decide +kernel)
theorem dX2_bestThing_61 : decode cX2_bestThing 61 = .ok (.istore 5, 2) := dcu_54 (by decide +kernel)
theorem dX2_bestThing_63 : decode cX2_bestThing 63 = .ok (.iinc 6 1, 3) := dc_iinc (m := 1) (by decide +kernel)
theorem dX2_bestThing_66 : decode cX2_bestThing 66 = .ok (.goto (-57), 3) := dcs_167 (n := 65479) (by decide +kernel)
theorem dX2_bestThing_69 : decode cX2_bestThing 69 = .ok (.iload 4, 2) := dcu_21 (by decide +kernel)
theorem dX2_bestThing_71 : decode cX2_bestThing 71 = .ok (.ireturn, 1) := dc1_172 (by decide +kernel)
theorem LX0_needOf_27 : Cond.fieldLink RX0 27 "GuessFerry$Crossing" "vars" "[I" ∈ wsX0_needOf := (List.mem_cons_of_mem _ (List.mem_append_left _ (List.mem_append_left _ (List.mem_append_left _ (List.mem_append_left _ (List.mem_append_left _ (List.mem_of_getElem? (i := 0) rfl)))))))
theorem LX0_needOf_9 : Cond.fieldLink RX0 9 "GuessFerry$Crossing" "sound" "LGuessFerry$Sound;" ∈ wsX0_needOf := (List.mem_cons_of_mem _ (List.mem_append_left _ (List.mem_append_left _ (List.mem_append_left _ (List.mem_append_left _ (List.mem_append_left _ (List.mem_of_getElem? (i := 1) rfl)))))))
theorem LX0_needOf_E_X1_valueOf : Cond.selects RX1 yX1_valueOf yX1_valueOf ∈ wsX0_needOf := (List.mem_cons_of_mem _ (List.mem_append_left _ (List.mem_append_left _ (List.mem_append_left _ (List.mem_append_left _ (List.mem_append_left _ (List.mem_of_getElem? (i := 17) rfl)))))))
theorem LX0_needOf_E_X5_oddsAt : Cond.selects RX5 yX5_oddsAt yX5_oddsAt ∈ wsX0_needOf := (List.mem_cons_of_mem _ (List.mem_append_left _ (List.mem_append_left _ (List.mem_append_left _ (List.mem_append_left _ (List.mem_append_left _ (List.mem_of_getElem? (i := 14) rfl)))))))
theorem LX0_needOf_I_X1 : Cond.initialized RX1 ∈ wsX0_needOf := (List.mem_cons_of_mem _ (List.mem_append_left _ (List.mem_append_left _ (List.mem_append_left _ (List.mem_append_left _ (List.mem_append_left _ (List.mem_of_getElem? (i := 16) rfl)))))))
theorem LX0_needOf_I_X10 : Cond.initialized RX10 ∈ wsX0_needOf := (List.mem_cons_of_mem _ (List.mem_append_left _ (List.mem_append_left _ (List.mem_append_left _ (List.mem_append_left _ (List.mem_append_left _ (List.mem_of_getElem? (i := 19) rfl)))))))
theorem LX0_needOf_I_X5 : Cond.initialized RX5 ∈ wsX0_needOf := (List.mem_cons_of_mem _ (List.mem_append_left _ (List.mem_append_left _ (List.mem_append_left _ (List.mem_append_left _ (List.mem_append_left _ (List.mem_of_getElem? (i := 13) rfl)))))))
theorem LX0_needOf_N_X1_valueOf : Cond.instanceMethod yX1_valueOf ∈ wsX0_needOf := (List.mem_cons_of_mem _ (List.mem_append_left _ (List.mem_append_left _ (List.mem_append_left _ (List.mem_append_left _ (List.mem_append_left _ (List.mem_of_getElem? (i := 15) rfl)))))))
theorem LX0_needOf_N_X5_oddsAt : Cond.instanceMethod yX5_oddsAt ∈ wsX0_needOf := (List.mem_cons_of_mem _ (List.mem_append_left _ (List.mem_append_left _ (List.mem_append_left _ (List.mem_append_left _ (List.mem_append_left _ (List.mem_of_getElem? (i := 12) rfl)))))))
theorem LX0_needOf_S_X10_heldTo : Cond.static yX10_heldTo ∈ wsX0_needOf := (List.mem_cons_of_mem _ (List.mem_append_left _ (List.mem_append_left _ (List.mem_append_left _ (List.mem_append_left _ (List.mem_append_left _ (List.mem_of_getElem? (i := 18) rfl)))))))
theorem inX0_needOf_X0 : ∀ w ∈ u_ws RX0 TX0 2, w ∈ wsX0_needOf := fun w h => (List.mem_cons_of_mem _ (List.mem_append_left _ (List.mem_append_left _ (List.mem_append_left _ (List.mem_append_right _ h)))))
theorem inX0_needOf_X5 : ∀ w ∈ u_ws RX5 TX5 10, w ∈ wsX0_needOf := fun w h => (List.mem_cons_of_mem _ (List.mem_append_left _ (List.mem_append_left _ (List.mem_append_right _ h))))
set_option maxHeartbeats 4000000 in
set_option maxRecDepth 100000 in
theorem bkX0_needOf {l : Launch} {dC : Nat → ClassId} {dI : Nat → Nat → Nat} {cB cI cJ cZ cS : ClassId} {a b : Nat → Nat} {as : List Value} {r : Int32} {s' : JS} (s : JS) (x2 : Int32) (x3 : Int32) (x4 : Int32) (hB : kX0_needOf s x2 x3 x4 = some (r, s')) : BlkI l yX0_needOf wsX0_needOf ({ frames := 3, cells := 0, slots := 0, locals := 76 }) cX0_needOf 5 (some .int) (dC, dI) (tysA cB cI cJ cZ cS) as 0 (wJ cB cI cJ cZ cS a b s) [(0, .ref (a 35)), (1, .ref (b 0)), (2, .int x2), (3, .int x3), (4, .int x4)] [] (fun x u => x = r ∧ u = (wJ cB cI cJ cZ cS a b s')) := by
  intro p e s0 m below meth c A E H locs ls hP hD hS hl
  obtain ⟨C, hr, hlocks, hA, hK, hN⟩ := id E
  obtain ⟨hx, hb, hml, hown, hts⟩ := id C
  unfold kX0_needOf at hB
  refine lv_aload_n hx hb dX0_needOf_0 rfl (lv_at hl 0 rfl) ?_
  refine lv_aload_n hx hb dX0_needOf_1 rfl (lv_at hl 1 rfl) ?_
  obtain ⟨s1, hc, hB⟩ := bindP_inv hB
  refine q_govF (va_runV (As := [.ref (b 0)]) (rest := []) C (ckX0_clearVars hc _) (cwV 1 hts gX0_needOf_X0_clearVars rfl rfl rfl (by decide +kernel) ⟨Nat.le_of_ble_eq_true rfl, Nat.le_of_ble_eq_true rfl⟩) (q_preV hK hP (ci := 0) (q0 := 41) rfl rfl rfl (q_preF hN hK hP hD)) rfl rfl hl.1 rfl (lv_room (Nat.le_of_ble_eq_true rfl)) dX0_needOf_2 ⟨Nat.le_of_ble_eq_true rfl, Nat.le_of_ble_eq_true rfl⟩) hD hS hA (fun w1 H locs hw hP hD hS => ?_)
  subst hw
  refine lv_aload_n hx hb dX0_needOf_5 rfl (lv_at hl 0 rfl) ?_
  refine lv_aload_n hx hb dX0_needOf_6 rfl (lv_at hl 1 rfl) ?_
  refine lv_iload_n hx hb dX0_needOf_7 rfl (lv_at hl 2 rfl) ?_
  obtain ⟨s2, hc, hB⟩ := bindP_inv hB
  refine q_govF (va_runV (As := [.ref (b 0), .int x2]) (rest := []) C (ckX0_setParty hc _) (cwV 2 hts gX0_needOf_X0_setParty rfl rfl rfl (by decide +kernel) ⟨Nat.le_of_ble_eq_true rfl, Nat.le_of_ble_eq_true rfl⟩) (q_preV hK hP (ci := 0) (q0 := 41) rfl rfl rfl (q_preF hN hK hP hD)) rfl rfl hl.1 rfl (lv_room (Nat.le_of_ble_eq_true rfl)) dX0_needOf_8 ⟨Nat.le_of_ble_eq_true rfl, Nat.le_of_ble_eq_true rfl⟩) hD hS hA (fun w1 H locs hw hP hD hS => ?_)
  subst hw
  refine lv_aload_n hx hb dX0_needOf_11 rfl (lv_at hl 0 rfl) ?_
  refine lv_aload_n hx hb dX0_needOf_12 rfl (lv_at hl 1 rfl) ?_
  refine lv_iload_n hx hb dX0_needOf_13 rfl (lv_at hl 3 rfl) ?_
  obtain ⟨s3, hc, hB⟩ := bindP_inv hB
  refine q_govF (va_runV (As := [.ref (b 0), .int x3]) (rest := []) C (ckX0_setWave hc _) (cwV 2 hts gX0_needOf_X0_setWave rfl rfl rfl (by decide +kernel) ⟨Nat.le_of_ble_eq_true rfl, Nat.le_of_ble_eq_true rfl⟩) (q_preV hK hP (ci := 0) (q0 := 41) rfl rfl rfl (q_preF hN hK hP hD)) rfl rfl hl.1 rfl (lv_room (Nat.le_of_ble_eq_true rfl)) dX0_needOf_14 ⟨Nat.le_of_ble_eq_true rfl, Nat.le_of_ble_eq_true rfl⟩) hD hS hA (fun w1 H locs hw hP hD hS => ?_)
  subst hw
  refine lv_aload_n hx hb dX0_needOf_17 rfl (lv_at hl 0 rfl) ?_
  refine q_get (v := .ref (a 13)) C inX0_needOf_X0 hK hP 41 rfl rfl 1 (by decide) rfl LX0_needOf_27 rfl dX0_needOf_18 ?_
  refine lv_iconst (v := 1) hx hb dX0_needOf_21 (by decide) ?_
  refine lv_aload_n hx hb dX0_needOf_22 rfl (lv_at hl 0 rfl) ?_
  refine q_get (v := .ref (a 2)) C inX0_needOf_X0 hK hP 41 rfl rfl 0 (by decide) rfl LX0_needOf_9 rfl dX0_needOf_23 ?_
  refine lv_iload_n hx hb dX0_needOf_26 rfl (lv_at hl 3 rfl) ?_
  refine lv_iload hx hb dX0_needOf_27 (lv_at hl 4 rfl) ?_
  obtain ⟨q_, s4, hc, hB⟩ := bindI_inv hB
  refine q_goi (wr := ((wD cI b s3.d))) (va_runVN (As := [.int x3, .int x4]) (rest := [.int 1, .ref (a 13)]) C (ckX5_oddsAt hc _) ⟨va_cnB 2 hts gX0_needOf_X5_oddsAt_n92 rfl rfl rfl (hN _ nwM_X0_92 rfl) (hts _ LX0_needOf_I_X5) (by decide +kernel) ⟨Nat.le_of_ble_eq_true rfl, Nat.le_of_ble_eq_true rfl⟩, hts _ LX0_needOf_N_X5_oddsAt, hts _ LX0_needOf_E_X5_oddsAt⟩ (q_preV hK hP (ci := 5) (q0 := 8) rfl rfl rfl (q_pre hN hK hP hD [6, 7, 8, 9, 10, 11, 12, 13, 14, 15, 16, 17, 18, 19, 20, 21, 22, 23, 24, 25, 26, 27, 28, 29, 30, 31, 32, 33, 34, 35, 36, 37, 38, 39, 40, 41, 42, 43, 44, 45, 46, 47, 48, 49, 50, 51, 52] (by first | exact zqs_6J | rfl) zqn_6)) rfl rfl hl.1 rfl (lv_room (Nat.le_of_ble_eq_true rfl)) dX0_needOf_29 ⟨Nat.le_of_ble_eq_true rfl, Nat.le_of_ble_eq_true rfl⟩) hP hD hS hA [6, 7, 8, 9, 10, 11, 12, 13, 14, 15, 16, 17, 18, 19, 20, 21, 22, 23, 24, 25, 26, 27, 28, 29, 30, 31, 32, 33, 34, 35, 36, 37, 38, 39, 40, 41, 42, 43, 44, 45, 46, 47, 48, 49, 50, 51, 52] [0, 1, 2, 3, 4, 5] (by first | exact zqs_6J | rfl) (by first | exact zqs_7J | rfl) zqn_7 zqd_3 (fun r5 w1 H locs hw hP hD hS => ?_)
  obtain ⟨hq_, hw⟩ := hw; subst hw; subst hq_
  obtain ⟨s6, hs7, hB⟩ := letS_inv hB
  have hP : va_P (dC, dI) vwCl (wJ cB cI cJ cZ cS a b s6) H := by subst hs7; exact hP
  have hD : va_D A (wJ cB cI cJ cZ cS a b s6) := by subst hs7; exact hD
  obtain ⟨s8, hs9, hB⟩ := letS_inv hB
  refine q_iast (f2 := (upd (s6.k.f 13) 1 r5)) (w2 := (wJ cB cI cJ cZ cS a b s8)) C hK hP hD hS 19 1 rfl rfl (vp_lit (by decide +kernel)) dX0_needOf_32 rfl (by subst hs9; rfl) (fun H locs hP hD hS => ?_)
  refine lv_bipush (v := 9) hx hb dX0_needOf_33 (by decide) ?_
  refine lv_aload_n hx hb dX0_needOf_35 rfl (lv_at hl 0 rfl) ?_
  refine q_get (v := .ref (a 2)) C inX0_needOf_X0 hK hP 41 rfl rfl 0 (by decide) rfl LX0_needOf_9 rfl dX0_needOf_36 ?_
  refine q_getN (v := .ref (a 8)) C hN inX0_needOf_X5 hK hP 8 rfl rfl 5 (by decide) rfl nwF_X0_15 rfl dX0_needOf_39 ?_
  refine lv_iconst (v := 0) hx hb dX0_needOf_42 (by decide) ?_
  obtain ⟨q_, s10, hc, hB⟩ := bindI_inv hB
  refine q_goi (wr := ((wD cI b s8.d))) (va_runVN (As := [.int 0]) (rest := [.int 9]) C (ckX1_valueOf hc _) ⟨va_cnB 1 hts gX0_needOf_X1_valueOf_n96 rfl rfl rfl (hN _ nwM_X0_96 rfl) (hts _ LX0_needOf_I_X1) (by decide +kernel) ⟨Nat.le_of_ble_eq_true rfl, Nat.le_of_ble_eq_true rfl⟩, hts _ LX0_needOf_N_X1_valueOf, hts _ LX0_needOf_E_X1_valueOf⟩ (q_preV hK hP (ci := 1) (q0 := 14) rfl rfl rfl (q_pre hN hK hP hD [6, 7, 8, 9, 10, 11, 12, 13, 14, 15, 16, 17, 18, 19, 20, 21, 22, 23, 24, 25, 26, 27, 28, 29, 30, 31, 32, 33, 34, 35, 36, 37, 38, 39, 40, 41, 42, 43, 44, 45, 46, 47, 48, 49, 50, 51, 52] (by first | exact zqs_6J | rfl) zqn_6)) rfl rfl hl.1 rfl (lv_room (Nat.le_of_ble_eq_true rfl)) dX0_needOf_43 ⟨Nat.le_of_ble_eq_true rfl, Nat.le_of_ble_eq_true rfl⟩) hP hD hS hA [6, 7, 8, 9, 10, 11, 12, 13, 14, 15, 16, 17, 18, 19, 20, 21, 22, 23, 24, 25, 26, 27, 28, 29, 30, 31, 32, 33, 34, 35, 36, 37, 38, 39, 40, 41, 42, 43, 44, 45, 46, 47, 48, 49, 50, 51, 52] [0, 1, 2, 3, 4, 5] (by first | exact zqs_6J | rfl) (by first | exact zqs_7J | rfl) zqn_7 zqd_3 (fun r11 w1 H locs hw hP hD hS => ?_)
  obtain ⟨hq_, hw⟩ := hw; subst hw; subst hq_
  obtain ⟨s12, hs13, hB⟩ := letS_inv hB
  have hP : va_P (dC, dI) vwCl (wJ cB cI cJ cZ cS a b s12) H := by subst hs13; exact hP
  have hD : va_D A (wJ cB cI cJ cZ cS a b s12) := by subst hs13; exact hD
  obtain ⟨q_, hc, hB⟩ := bindP_inv hB
  refine q_goi0 (va_runSN (As := [.int 9, .int r11]) (rest := []) C (ckX10_heldTo hc _) ⟨va_cnB 2 hts gX0_needOf_X10_heldTo_n99 rfl rfl rfl (hN _ nwM_X0_99 rfl) (hts _ LX0_needOf_I_X10) (by decide +kernel) ⟨Nat.le_of_ble_eq_true rfl, Nat.le_of_ble_eq_true rfl⟩, hts _ LX0_needOf_S_X10_heldTo, trivial⟩ (q_pre0 hN hK) rfl rfl hl.1 rfl (lv_room (Nat.le_of_ble_eq_true rfl)) dX0_needOf_46 ⟨Nat.le_of_ble_eq_true rfl, Nat.le_of_ble_eq_true rfl⟩) hP hD hS hA (fun r14 w1 H locs hw hP hS => ?_)
  subst hw
  exact q_iret C hr hlocks hK hP hD hS (Nat.le_of_ble_eq_true rfl) (Nat.le_of_ble_eq_true rfl) dX0_needOf_49 (by cases hB; exact ⟨rfl, rfl⟩)
theorem ckX0_needOf {l : Launch} {dC : Nat → ClassId} {dI : Nat → Nat → Nat} {cB cI cJ cZ cS : ClassId} {a b : Nat → Nat} {r : Int32} {s' : JS} {s : JS} {x2 : Int32} {x3 : Int32} {x4 : Int32} (hB : kX0_needOf s x2 x3 x4 = some (r, s')) : CI l yX0_needOf wsX0_needOf ({ frames := 3, cells := 0, slots := 0, locals := 76 }) (dC, dI) (tysA cB cI cJ cZ cS) (wJ cB cI cJ cZ cS a b s) [.ref (a 35), .ref (b 0), .int x2, .int x3, .int x4] (fun x u => x = r ∧ u = (wJ cB cI cJ cZ cS a b s')) :=
  CI_of (cc := cX0_needOf) (maxL := 5) (ret := (some .int)) (by decide) rfl (Nat.le_of_ble_eq_true rfl) (bkX0_needOf _ _ _ _ hB)
theorem LX0_isBearing_9 : Cond.fieldLink RX0 9 "GuessFerry$Crossing" "sound" "LGuessFerry$Sound;" ∈ wsX0_isBearing := (List.mem_cons_of_mem _ (List.mem_append_left _ (List.mem_append_left _ (List.mem_append_left _ (List.mem_append_left _ (List.mem_append_left _ (List.mem_of_getElem? (i := 0) rfl)))))))
theorem LX0_isBearing_E_X5_oddsAt : Cond.selects RX5 yX5_oddsAt yX5_oddsAt ∈ wsX0_isBearing := (List.mem_cons_of_mem _ (List.mem_append_left _ (List.mem_append_left _ (List.mem_append_left _ (List.mem_append_left _ (List.mem_append_left _ (List.mem_of_getElem? (i := 3) rfl)))))))
theorem LX0_isBearing_I_X5 : Cond.initialized RX5 ∈ wsX0_isBearing := (List.mem_cons_of_mem _ (List.mem_append_left _ (List.mem_append_left _ (List.mem_append_left _ (List.mem_append_left _ (List.mem_append_left _ (List.mem_of_getElem? (i := 2) rfl)))))))
theorem LX0_isBearing_N_X5_oddsAt : Cond.instanceMethod yX5_oddsAt ∈ wsX0_isBearing := (List.mem_cons_of_mem _ (List.mem_append_left _ (List.mem_append_left _ (List.mem_append_left _ (List.mem_append_left _ (List.mem_append_left _ (List.mem_of_getElem? (i := 1) rfl)))))))
theorem inX0_isBearing_X0 : ∀ w ∈ u_ws RX0 TX0 2, w ∈ wsX0_isBearing := fun w h => (List.mem_cons_of_mem _ (List.mem_append_left _ (List.mem_append_left _ (List.mem_append_left _ (List.mem_append_right _ h)))))
set_option maxHeartbeats 4000000 in
set_option maxRecDepth 100000 in
theorem bkX0_isBearing {l : Launch} {dC : Nat → ClassId} {dI : Nat → Nat → Nat} {cB cI cJ cZ cS : ClassId} {a b : Nat → Nat} {as : List Value} {r : Int32} {s' : JS} (s : JS) (x2 : Int32) (x3 : Int32) (x4 : Int32) (hB : kX0_isBearing s x2 x3 x4 = some (r, s')) : BlkI l yX0_isBearing wsX0_isBearing ({ frames := 4, cells := 0, slots := 0, locals := 100 }) cX0_isBearing 5 (some .boolean) (dC, dI) (tysA cB cI cJ cZ cS) as 0 (wJ cB cI cJ cZ cS a b s) [(0, .ref (a 35)), (1, .ref (b 0)), (2, .int x2), (3, .int x3), (4, .int x4)] [] (fun x u => x = r ∧ u = (wJ cB cI cJ cZ cS a b s')) := by
  intro p e s0 m below meth c A E H locs ls hP hD hS hl
  obtain ⟨C, hr, hlocks, hA, hK, hN⟩ := id E
  obtain ⟨hx, hb, hml, hown, hts⟩ := id C
  unfold kX0_isBearing at hB
  refine lv_aload_n hx hb dX0_isBearing_0 rfl (lv_at hl 0 rfl) ?_
  refine q_get (v := .ref (a 2)) C inX0_isBearing_X0 hK hP 41 rfl rfl 0 (by decide) rfl LX0_isBearing_9 rfl dX0_isBearing_1 ?_
  refine lv_iload_n hx hb dX0_isBearing_4 rfl (lv_at hl 3 rfl) ?_
  refine lv_iload hx hb dX0_isBearing_5 (lv_at hl 4 rfl) ?_
  obtain ⟨q_, s1, hc, hB⟩ := bindI_inv hB
  refine q_goi (wr := ((wD cI b s.d))) (va_runVN (As := [.int x3, .int x4]) (rest := []) C (ckX5_oddsAt hc _) ⟨va_cnB 2 hts gX0_isBearing_X5_oddsAt_n92 rfl rfl rfl (hN _ nwM_X0_92 rfl) (hts _ LX0_isBearing_I_X5) (by decide +kernel) ⟨Nat.le_of_ble_eq_true rfl, Nat.le_of_ble_eq_true rfl⟩, hts _ LX0_isBearing_N_X5_oddsAt, hts _ LX0_isBearing_E_X5_oddsAt⟩ (q_preV hK hP (ci := 5) (q0 := 8) rfl rfl rfl (q_pre hN hK hP hD [6, 7, 8, 9, 10, 11, 12, 13, 14, 15, 16, 17, 18, 19, 20, 21, 22, 23, 24, 25, 26, 27, 28, 29, 30, 31, 32, 33, 34, 35, 36, 37, 38, 39, 40, 41, 42, 43, 44, 45, 46, 47, 48, 49, 50, 51, 52] (by first | exact zqs_6J | rfl) zqn_6)) rfl rfl hl.1 rfl (lv_room (Nat.le_of_ble_eq_true rfl)) dX0_isBearing_7 ⟨Nat.le_of_ble_eq_true rfl, Nat.le_of_ble_eq_true rfl⟩) hP hD hS hA [6, 7, 8, 9, 10, 11, 12, 13, 14, 15, 16, 17, 18, 19, 20, 21, 22, 23, 24, 25, 26, 27, 28, 29, 30, 31, 32, 33, 34, 35, 36, 37, 38, 39, 40, 41, 42, 43, 44, 45, 46, 47, 48, 49, 50, 51, 52] [0, 1, 2, 3, 4, 5] (by first | exact zqs_6J | rfl) (by first | exact zqs_7J | rfl) zqn_7 zqd_3 (fun r2 w1 H locs hw hP hD hS => ?_)
  obtain ⟨hq_, hw⟩ := hw; subst hw; subst hq_
  obtain ⟨s3, hs4, hB⟩ := letS_inv hB
  have hP : va_P (dC, dI) vwCl (wJ cB cI cJ cZ cS a b s3) H := by subst hs4; exact hP
  have hD : va_D A (wJ cB cI cJ cZ cS a b s3) := by subst hs4; exact hD
  refine lv_aload_n hx hb dX0_isBearing_10 rfl (lv_at hl 0 rfl) ?_
  refine lv_aload_n hx hb dX0_isBearing_11 rfl (lv_at hl 1 rfl) ?_
  refine lv_iload_n hx hb dX0_isBearing_12 rfl (lv_at hl 2 rfl) ?_
  refine lv_iload_n hx hb dX0_isBearing_13 rfl (lv_at hl 3 rfl) ?_
  refine lv_iload hx hb dX0_isBearing_14 (lv_at hl 4 rfl) ?_
  obtain ⟨q_, s5, hc, hB⟩ := bindI_inv hB
  refine q_goiF (va_runV (As := [.ref (b 0), .int x2, .int x3, .int x4]) (rest := [.int r2]) C (ckX0_needOf hc _) (cwV 4 hts gX0_isBearing_X0_needOf rfl rfl rfl (by decide +kernel) ⟨Nat.le_of_ble_eq_true rfl, Nat.le_of_ble_eq_true rfl⟩) (q_preV hK hP (ci := 0) (q0 := 41) rfl rfl rfl (q_preF hN hK hP hD)) rfl rfl hl.1 rfl (lv_room (Nat.le_of_ble_eq_true rfl)) dX0_isBearing_16 ⟨Nat.le_of_ble_eq_true rfl, Nat.le_of_ble_eq_true rfl⟩) hD hS hA (fun r6 w1 H locs hw hP hD hS => ?_)
  obtain ⟨hq_, hw⟩ := hw; subst hw; subst hq_
  refine lv_icmp_lt (tgt := 26) hx hb dX0_isBearing_19 (by decide) (fun c7 => ?_) (fun c7 => ?_)
  · have hB := if_p hB c7
    refine lv_iconst (v := 0) hx hb dX0_isBearing_26 (by decide) ?_
    exact q_zret C hr hlocks (Or.inl rfl) hK hP hD hS (Nat.le_of_ble_eq_true rfl) (Nat.le_of_ble_eq_true rfl) dX0_isBearing_27 (by cases hB; exact ⟨rfl, rfl⟩)
  · have hB := if_n hB c7
    refine lv_iconst (v := 1) hx hb dX0_isBearing_22 (by decide) ?_
    refine lv_goto (tgt := 27) hx hb dX0_isBearing_23 (by decide) ?_
    exact q_zret C hr hlocks (Or.inr rfl) hK hP hD hS (Nat.le_of_ble_eq_true rfl) (Nat.le_of_ble_eq_true rfl) dX0_isBearing_27 (by cases hB; exact ⟨rfl, rfl⟩)
theorem ckX0_isBearing {l : Launch} {dC : Nat → ClassId} {dI : Nat → Nat → Nat} {cB cI cJ cZ cS : ClassId} {a b : Nat → Nat} {r : Int32} {s' : JS} {s : JS} {x2 : Int32} {x3 : Int32} {x4 : Int32} (hB : kX0_isBearing s x2 x3 x4 = some (r, s')) : CI l yX0_isBearing wsX0_isBearing ({ frames := 4, cells := 0, slots := 0, locals := 100 }) (dC, dI) (tysA cB cI cJ cZ cS) (wJ cB cI cJ cZ cS a b s) [.ref (a 35), .ref (b 0), .int x2, .int x3, .int x4] (fun x u => x = r ∧ u = (wJ cB cI cJ cZ cS a b s')) :=
  CI_of (cc := cX0_isBearing) (maxL := 5) (ret := (some .boolean)) (by decide) rfl (Nat.le_of_ble_eq_true rfl) (bkX0_isBearing _ _ _ _ hB)
theorem LX0_fareOf_9 : Cond.fieldLink RX0 9 "GuessFerry$Crossing" "sound" "LGuessFerry$Sound;" ∈ wsX0_fareOf := (List.mem_cons_of_mem _ (List.mem_append_left _ (List.mem_append_left _ (List.mem_append_left _ (List.mem_append_left _ (List.mem_append_left _ (List.mem_of_getElem? (i := 0) rfl)))))))
theorem LX0_fareOf_E_X1_valueOf : Cond.selects RX1 yX1_valueOf yX1_valueOf ∈ wsX0_fareOf := (List.mem_cons_of_mem _ (List.mem_append_left _ (List.mem_append_left _ (List.mem_append_left _ (List.mem_append_left _ (List.mem_append_left _ (List.mem_of_getElem? (i := 10) rfl)))))))
theorem LX0_fareOf_I_X1 : Cond.initialized RX1 ∈ wsX0_fareOf := (List.mem_cons_of_mem _ (List.mem_append_left _ (List.mem_append_left _ (List.mem_append_left _ (List.mem_append_left _ (List.mem_append_left _ (List.mem_of_getElem? (i := 9) rfl)))))))
theorem LX0_fareOf_I_X10 : Cond.initialized RX10 ∈ wsX0_fareOf := (List.mem_cons_of_mem _ (List.mem_append_left _ (List.mem_append_left _ (List.mem_append_left _ (List.mem_append_left _ (List.mem_append_left _ (List.mem_of_getElem? (i := 12) rfl)))))))
theorem LX0_fareOf_N_X1_valueOf : Cond.instanceMethod yX1_valueOf ∈ wsX0_fareOf := (List.mem_cons_of_mem _ (List.mem_append_left _ (List.mem_append_left _ (List.mem_append_left _ (List.mem_append_left _ (List.mem_append_left _ (List.mem_of_getElem? (i := 8) rfl)))))))
theorem LX0_fareOf_S_X10_heldTo : Cond.static yX10_heldTo ∈ wsX0_fareOf := (List.mem_cons_of_mem _ (List.mem_append_left _ (List.mem_append_left _ (List.mem_append_left _ (List.mem_append_left _ (List.mem_append_left _ (List.mem_of_getElem? (i := 11) rfl)))))))
theorem inX0_fareOf_X0 : ∀ w ∈ u_ws RX0 TX0 2, w ∈ wsX0_fareOf := fun w h => (List.mem_cons_of_mem _ (List.mem_append_left _ (List.mem_append_left _ (List.mem_append_left _ (List.mem_append_right _ h)))))
theorem inX0_fareOf_X5 : ∀ w ∈ u_ws RX5 TX5 10, w ∈ wsX0_fareOf := fun w h => (List.mem_cons_of_mem _ (List.mem_append_left _ (List.mem_append_left _ (List.mem_append_right _ h))))
set_option maxHeartbeats 4000000 in
set_option maxRecDepth 100000 in
theorem bkX0_fareOf {l : Launch} {dC : Nat → ClassId} {dI : Nat → Nat → Nat} {cB cI cJ cZ cS : ClassId} {a b : Nat → Nat} {as : List Value} {r : Int32} {s' : JS} (s : JS) (x2 : Int32) (hB : kX0_fareOf s x2 = some (r, s')) : BlkI l yX0_fareOf wsX0_fareOf ({ frames := 3, cells := 0, slots := 0, locals := 76 }) cX0_fareOf 3 (some .int) (dC, dI) (tysA cB cI cJ cZ cS) as 0 (wJ cB cI cJ cZ cS a b s) [(0, .ref (a 35)), (1, .ref (b 0)), (2, .int x2)] [] (fun x u => x = r ∧ u = (wJ cB cI cJ cZ cS a b s')) := by
  intro p e s0 m below meth c A E H locs ls hP hD hS hl
  obtain ⟨C, hr, hlocks, hA, hK, hN⟩ := id E
  obtain ⟨hx, hb, hml, hown, hts⟩ := id C
  unfold kX0_fareOf at hB
  refine lv_aload_n hx hb dX0_fareOf_0 rfl (lv_at hl 0 rfl) ?_
  refine lv_aload_n hx hb dX0_fareOf_1 rfl (lv_at hl 1 rfl) ?_
  obtain ⟨s1, hc, hB⟩ := bindP_inv hB
  refine q_govF (va_runV (As := [.ref (b 0)]) (rest := []) C (ckX0_clearVars hc _) (cwV 1 hts gX0_fareOf_X0_clearVars rfl rfl rfl (by decide +kernel) ⟨Nat.le_of_ble_eq_true rfl, Nat.le_of_ble_eq_true rfl⟩) (q_preV hK hP (ci := 0) (q0 := 41) rfl rfl rfl (q_preF hN hK hP hD)) rfl rfl hl.1 rfl (lv_room (Nat.le_of_ble_eq_true rfl)) dX0_fareOf_2 ⟨Nat.le_of_ble_eq_true rfl, Nat.le_of_ble_eq_true rfl⟩) hD hS hA (fun w1 H locs hw hP hD hS => ?_)
  subst hw
  refine lv_aload_n hx hb dX0_fareOf_5 rfl (lv_at hl 0 rfl) ?_
  refine lv_aload_n hx hb dX0_fareOf_6 rfl (lv_at hl 1 rfl) ?_
  refine lv_iload_n hx hb dX0_fareOf_7 rfl (lv_at hl 2 rfl) ?_
  obtain ⟨s2, hc, hB⟩ := bindP_inv hB
  refine q_govF (va_runV (As := [.ref (b 0), .int x2]) (rest := []) C (ckX0_setParty hc _) (cwV 2 hts gX0_fareOf_X0_setParty rfl rfl rfl (by decide +kernel) ⟨Nat.le_of_ble_eq_true rfl, Nat.le_of_ble_eq_true rfl⟩) (q_preV hK hP (ci := 0) (q0 := 41) rfl rfl rfl (q_preF hN hK hP hD)) rfl rfl hl.1 rfl (lv_room (Nat.le_of_ble_eq_true rfl)) dX0_fareOf_8 ⟨Nat.le_of_ble_eq_true rfl, Nat.le_of_ble_eq_true rfl⟩) hD hS hA (fun w1 H locs hw hP hD hS => ?_)
  subst hw
  refine lv_bipush (v := 99) hx hb dX0_fareOf_11 (by decide) ?_
  refine lv_aload_n hx hb dX0_fareOf_13 rfl (lv_at hl 0 rfl) ?_
  refine q_get (v := .ref (a 2)) C inX0_fareOf_X0 hK hP 41 rfl rfl 0 (by decide) rfl LX0_fareOf_9 rfl dX0_fareOf_14 ?_
  refine q_getN (v := .ref (a 8)) C hN inX0_fareOf_X5 hK hP 8 rfl rfl 5 (by decide) rfl nwF_X0_15 rfl dX0_fareOf_17 ?_
  refine lv_iconst (v := 1) hx hb dX0_fareOf_20 (by decide) ?_
  obtain ⟨q_, s3, hc, hB⟩ := bindI_inv hB
  refine q_goi (wr := ((wD cI b s2.d))) (va_runVN (As := [.int 1]) (rest := [.int 99]) C (ckX1_valueOf hc _) ⟨va_cnB 1 hts gX0_fareOf_X1_valueOf_n96 rfl rfl rfl (hN _ nwM_X0_96 rfl) (hts _ LX0_fareOf_I_X1) (by decide +kernel) ⟨Nat.le_of_ble_eq_true rfl, Nat.le_of_ble_eq_true rfl⟩, hts _ LX0_fareOf_N_X1_valueOf, hts _ LX0_fareOf_E_X1_valueOf⟩ (q_preV hK hP (ci := 1) (q0 := 14) rfl rfl rfl (q_pre hN hK hP hD [6, 7, 8, 9, 10, 11, 12, 13, 14, 15, 16, 17, 18, 19, 20, 21, 22, 23, 24, 25, 26, 27, 28, 29, 30, 31, 32, 33, 34, 35, 36, 37, 38, 39, 40, 41, 42, 43, 44, 45, 46, 47, 48, 49, 50, 51, 52] (by first | exact zqs_6J | rfl) zqn_6)) rfl rfl hl.1 rfl (lv_room (Nat.le_of_ble_eq_true rfl)) dX0_fareOf_21 ⟨Nat.le_of_ble_eq_true rfl, Nat.le_of_ble_eq_true rfl⟩) hP hD hS hA [6, 7, 8, 9, 10, 11, 12, 13, 14, 15, 16, 17, 18, 19, 20, 21, 22, 23, 24, 25, 26, 27, 28, 29, 30, 31, 32, 33, 34, 35, 36, 37, 38, 39, 40, 41, 42, 43, 44, 45, 46, 47, 48, 49, 50, 51, 52] [0, 1, 2, 3, 4, 5] (by first | exact zqs_6J | rfl) (by first | exact zqs_7J | rfl) zqn_7 zqd_3 (fun r4 w1 H locs hw hP hD hS => ?_)
  obtain ⟨hq_, hw⟩ := hw; subst hw; subst hq_
  obtain ⟨s5, hs6, hB⟩ := letS_inv hB
  have hP : va_P (dC, dI) vwCl (wJ cB cI cJ cZ cS a b s5) H := by subst hs6; exact hP
  have hD : va_D A (wJ cB cI cJ cZ cS a b s5) := by subst hs6; exact hD
  obtain ⟨q_, hc, hB⟩ := bindP_inv hB
  refine q_goi0 (va_runSN (As := [.int 99, .int r4]) (rest := []) C (ckX10_heldTo hc _) ⟨va_cnB 2 hts gX0_fareOf_X10_heldTo_n99 rfl rfl rfl (hN _ nwM_X0_99 rfl) (hts _ LX0_fareOf_I_X10) (by decide +kernel) ⟨Nat.le_of_ble_eq_true rfl, Nat.le_of_ble_eq_true rfl⟩, hts _ LX0_fareOf_S_X10_heldTo, trivial⟩ (q_pre0 hN hK) rfl rfl hl.1 rfl (lv_room (Nat.le_of_ble_eq_true rfl)) dX0_fareOf_24 ⟨Nat.le_of_ble_eq_true rfl, Nat.le_of_ble_eq_true rfl⟩) hP hD hS hA (fun r7 w1 H locs hw hP hS => ?_)
  subst hw
  exact q_iret C hr hlocks hK hP hD hS (Nat.le_of_ble_eq_true rfl) (Nat.le_of_ble_eq_true rfl) dX0_fareOf_27 (by cases hB; exact ⟨rfl, rfl⟩)
theorem ckX0_fareOf {l : Launch} {dC : Nat → ClassId} {dI : Nat → Nat → Nat} {cB cI cJ cZ cS : ClassId} {a b : Nat → Nat} {r : Int32} {s' : JS} {s : JS} {x2 : Int32} (hB : kX0_fareOf s x2 = some (r, s')) : CI l yX0_fareOf wsX0_fareOf ({ frames := 3, cells := 0, slots := 0, locals := 76 }) (dC, dI) (tysA cB cI cJ cZ cS) (wJ cB cI cJ cZ cS a b s) [.ref (a 35), .ref (b 0), .int x2] (fun x u => x = r ∧ u = (wJ cB cI cJ cZ cS a b s')) :=
  CI_of (cc := cX0_fareOf) (maxL := 3) (ret := (some .int)) (by decide) rfl (Nat.le_of_ble_eq_true rfl) (bkX0_fareOf _ _ hB)
theorem LX0_isDaring_9 : Cond.fieldLink RX0 9 "GuessFerry$Crossing" "sound" "LGuessFerry$Sound;" ∈ wsX0_isDaring := (List.mem_cons_of_mem _ (List.mem_append_left _ (List.mem_append_left _ (List.mem_append_left _ (List.mem_append_left _ (List.mem_append_left _ (List.mem_of_getElem? (i := 0) rfl)))))))
theorem LX0_isDaring_E_X1_valueOf : Cond.selects RX1 yX1_valueOf yX1_valueOf ∈ wsX0_isDaring := (List.mem_cons_of_mem _ (List.mem_append_left _ (List.mem_append_left _ (List.mem_append_left _ (List.mem_append_left _ (List.mem_append_left _ (List.mem_of_getElem? (i := 10) rfl)))))))
theorem LX0_isDaring_I_X1 : Cond.initialized RX1 ∈ wsX0_isDaring := (List.mem_cons_of_mem _ (List.mem_append_left _ (List.mem_append_left _ (List.mem_append_left _ (List.mem_append_left _ (List.mem_append_left _ (List.mem_of_getElem? (i := 9) rfl)))))))
theorem LX0_isDaring_N_X1_valueOf : Cond.instanceMethod yX1_valueOf ∈ wsX0_isDaring := (List.mem_cons_of_mem _ (List.mem_append_left _ (List.mem_append_left _ (List.mem_append_left _ (List.mem_append_left _ (List.mem_append_left _ (List.mem_of_getElem? (i := 8) rfl)))))))
theorem inX0_isDaring_X0 : ∀ w ∈ u_ws RX0 TX0 2, w ∈ wsX0_isDaring := fun w h => (List.mem_cons_of_mem _ (List.mem_append_left _ (List.mem_append_left _ (List.mem_append_left _ (List.mem_append_right _ h)))))
theorem inX0_isDaring_X5 : ∀ w ∈ u_ws RX5 TX5 10, w ∈ wsX0_isDaring := fun w h => (List.mem_cons_of_mem _ (List.mem_append_left _ (List.mem_append_left _ (List.mem_append_right _ h))))
set_option maxHeartbeats 4000000 in
set_option maxRecDepth 100000 in
theorem bkX0_isDaring {l : Launch} {dC : Nat → ClassId} {dI : Nat → Nat → Nat} {cB cI cJ cZ cS : ClassId} {a b : Nat → Nat} {as : List Value} {r : Int32} {s' : JS} (s : JS) (x2 : Int32) (hB : kX0_isDaring s x2 = some (r, s')) : BlkI l yX0_isDaring wsX0_isDaring ({ frames := 3, cells := 0, slots := 0, locals := 76 }) cX0_isDaring 3 (some .boolean) (dC, dI) (tysA cB cI cJ cZ cS) as 0 (wJ cB cI cJ cZ cS a b s) [(0, .ref (a 35)), (1, .ref (b 0)), (2, .int x2)] [] (fun x u => x = r ∧ u = (wJ cB cI cJ cZ cS a b s')) := by
  intro p e s0 m below meth c A E H locs ls hP hD hS hl
  obtain ⟨C, hr, hlocks, hA, hK, hN⟩ := id E
  obtain ⟨hx, hb, hml, hown, hts⟩ := id C
  unfold kX0_isDaring at hB
  refine lv_aload_n hx hb dX0_isDaring_0 rfl (lv_at hl 0 rfl) ?_
  refine lv_aload_n hx hb dX0_isDaring_1 rfl (lv_at hl 1 rfl) ?_
  obtain ⟨s1, hc, hB⟩ := bindP_inv hB
  refine q_govF (va_runV (As := [.ref (b 0)]) (rest := []) C (ckX0_clearVars hc _) (cwV 1 hts gX0_isDaring_X0_clearVars rfl rfl rfl (by decide +kernel) ⟨Nat.le_of_ble_eq_true rfl, Nat.le_of_ble_eq_true rfl⟩) (q_preV hK hP (ci := 0) (q0 := 41) rfl rfl rfl (q_preF hN hK hP hD)) rfl rfl hl.1 rfl (lv_room (Nat.le_of_ble_eq_true rfl)) dX0_isDaring_2 ⟨Nat.le_of_ble_eq_true rfl, Nat.le_of_ble_eq_true rfl⟩) hD hS hA (fun w1 H locs hw hP hD hS => ?_)
  subst hw
  refine lv_aload_n hx hb dX0_isDaring_5 rfl (lv_at hl 0 rfl) ?_
  refine lv_aload_n hx hb dX0_isDaring_6 rfl (lv_at hl 1 rfl) ?_
  refine lv_iload_n hx hb dX0_isDaring_7 rfl (lv_at hl 2 rfl) ?_
  obtain ⟨s2, hc, hB⟩ := bindP_inv hB
  refine q_govF (va_runV (As := [.ref (b 0), .int x2]) (rest := []) C (ckX0_setParty hc _) (cwV 2 hts gX0_isDaring_X0_setParty rfl rfl rfl (by decide +kernel) ⟨Nat.le_of_ble_eq_true rfl, Nat.le_of_ble_eq_true rfl⟩) (q_preV hK hP (ci := 0) (q0 := 41) rfl rfl rfl (q_preF hN hK hP hD)) rfl rfl hl.1 rfl (lv_room (Nat.le_of_ble_eq_true rfl)) dX0_isDaring_8 ⟨Nat.le_of_ble_eq_true rfl, Nat.le_of_ble_eq_true rfl⟩) hD hS hA (fun w1 H locs hw hP hD hS => ?_)
  subst hw
  refine lv_aload_n hx hb dX0_isDaring_11 rfl (lv_at hl 0 rfl) ?_
  refine q_get (v := .ref (a 2)) C inX0_isDaring_X0 hK hP 41 rfl rfl 0 (by decide) rfl LX0_isDaring_9 rfl dX0_isDaring_12 ?_
  refine q_getN (v := .ref (a 8)) C hN inX0_isDaring_X5 hK hP 8 rfl rfl 5 (by decide) rfl nwF_X0_15 rfl dX0_isDaring_15 ?_
  refine lv_iconst (v := 2) hx hb dX0_isDaring_18 (by decide) ?_
  obtain ⟨q_, s3, hc, hB⟩ := bindI_inv hB
  refine q_goi (wr := ((wD cI b s2.d))) (va_runVN (As := [.int 2]) (rest := []) C (ckX1_valueOf hc _) ⟨va_cnB 1 hts gX0_isDaring_X1_valueOf_n96 rfl rfl rfl (hN _ nwM_X0_96 rfl) (hts _ LX0_isDaring_I_X1) (by decide +kernel) ⟨Nat.le_of_ble_eq_true rfl, Nat.le_of_ble_eq_true rfl⟩, hts _ LX0_isDaring_N_X1_valueOf, hts _ LX0_isDaring_E_X1_valueOf⟩ (q_preV hK hP (ci := 1) (q0 := 14) rfl rfl rfl (q_pre hN hK hP hD [6, 7, 8, 9, 10, 11, 12, 13, 14, 15, 16, 17, 18, 19, 20, 21, 22, 23, 24, 25, 26, 27, 28, 29, 30, 31, 32, 33, 34, 35, 36, 37, 38, 39, 40, 41, 42, 43, 44, 45, 46, 47, 48, 49, 50, 51, 52] (by first | exact zqs_6J | rfl) zqn_6)) rfl rfl hl.1 rfl (lv_room (Nat.le_of_ble_eq_true rfl)) dX0_isDaring_19 ⟨Nat.le_of_ble_eq_true rfl, Nat.le_of_ble_eq_true rfl⟩) hP hD hS hA [6, 7, 8, 9, 10, 11, 12, 13, 14, 15, 16, 17, 18, 19, 20, 21, 22, 23, 24, 25, 26, 27, 28, 29, 30, 31, 32, 33, 34, 35, 36, 37, 38, 39, 40, 41, 42, 43, 44, 45, 46, 47, 48, 49, 50, 51, 52] [0, 1, 2, 3, 4, 5] (by first | exact zqs_6J | rfl) (by first | exact zqs_7J | rfl) zqn_7 zqd_3 (fun r4 w1 H locs hw hP hD hS => ?_)
  obtain ⟨hq_, hw⟩ := hw; subst hw; subst hq_
  obtain ⟨s5, hs6, hB⟩ := letS_inv hB
  have hP : va_P (dC, dI) vwCl (wJ cB cI cJ cZ cS a b s5) H := by subst hs6; exact hP
  have hD : va_D A (wJ cB cI cJ cZ cS a b s5) := by subst hs6; exact hD
  refine lv_if_le (tgt := 29) hx hb dX0_isDaring_22 (by decide) (fun c7 => ?_) (fun c7 => ?_)
  · have hB := if_p hB c7
    refine lv_iconst (v := 0) hx hb dX0_isDaring_29 (by decide) ?_
    exact q_zret C hr hlocks (Or.inl rfl) hK hP hD hS (Nat.le_of_ble_eq_true rfl) (Nat.le_of_ble_eq_true rfl) dX0_isDaring_30 (by cases hB; exact ⟨rfl, rfl⟩)
  · have hB := if_n hB c7
    refine lv_iconst (v := 1) hx hb dX0_isDaring_25 (by decide) ?_
    refine lv_goto (tgt := 30) hx hb dX0_isDaring_26 (by decide) ?_
    exact q_zret C hr hlocks (Or.inr rfl) hK hP hD hS (Nat.le_of_ble_eq_true rfl) (Nat.le_of_ble_eq_true rfl) dX0_isDaring_30 (by cases hB; exact ⟨rfl, rfl⟩)
theorem ckX0_isDaring {l : Launch} {dC : Nat → ClassId} {dI : Nat → Nat → Nat} {cB cI cJ cZ cS : ClassId} {a b : Nat → Nat} {r : Int32} {s' : JS} {s : JS} {x2 : Int32} (hB : kX0_isDaring s x2 = some (r, s')) : CI l yX0_isDaring wsX0_isDaring ({ frames := 3, cells := 0, slots := 0, locals := 76 }) (dC, dI) (tysA cB cI cJ cZ cS) (wJ cB cI cJ cZ cS a b s) [.ref (a 35), .ref (b 0), .int x2] (fun x u => x = r ∧ u = (wJ cB cI cJ cZ cS a b s')) :=
  CI_of (cc := cX0_isDaring) (maxL := 3) (ret := (some .boolean)) (by decide) rfl (Nat.le_of_ble_eq_true rfl) (bkX0_isDaring _ _ hB)
theorem LX0_shiftsOf_9 : Cond.fieldLink RX0 9 "GuessFerry$Crossing" "sound" "LGuessFerry$Sound;" ∈ wsX0_shiftsOf := (List.mem_cons_of_mem _ (List.mem_append_left _ (List.mem_append_left _ (List.mem_append_left _ (List.mem_append_left _ (List.mem_append_left _ (List.mem_of_getElem? (i := 0) rfl)))))))
theorem LX0_shiftsOf_E_X1_valueOf : Cond.selects RX1 yX1_valueOf yX1_valueOf ∈ wsX0_shiftsOf := (List.mem_cons_of_mem _ (List.mem_append_left _ (List.mem_append_left _ (List.mem_append_left _ (List.mem_append_left _ (List.mem_append_left _ (List.mem_of_getElem? (i := 10) rfl)))))))
theorem LX0_shiftsOf_I_X1 : Cond.initialized RX1 ∈ wsX0_shiftsOf := (List.mem_cons_of_mem _ (List.mem_append_left _ (List.mem_append_left _ (List.mem_append_left _ (List.mem_append_left _ (List.mem_append_left _ (List.mem_of_getElem? (i := 9) rfl)))))))
theorem LX0_shiftsOf_I_X10 : Cond.initialized RX10 ∈ wsX0_shiftsOf := (List.mem_cons_of_mem _ (List.mem_append_left _ (List.mem_append_left _ (List.mem_append_left _ (List.mem_append_left _ (List.mem_append_left _ (List.mem_of_getElem? (i := 12) rfl)))))))
theorem LX0_shiftsOf_N_X1_valueOf : Cond.instanceMethod yX1_valueOf ∈ wsX0_shiftsOf := (List.mem_cons_of_mem _ (List.mem_append_left _ (List.mem_append_left _ (List.mem_append_left _ (List.mem_append_left _ (List.mem_append_left _ (List.mem_of_getElem? (i := 8) rfl)))))))
theorem LX0_shiftsOf_S_X10_heldTo : Cond.static yX10_heldTo ∈ wsX0_shiftsOf := (List.mem_cons_of_mem _ (List.mem_append_left _ (List.mem_append_left _ (List.mem_append_left _ (List.mem_append_left _ (List.mem_append_left _ (List.mem_of_getElem? (i := 11) rfl)))))))
theorem inX0_shiftsOf_X0 : ∀ w ∈ u_ws RX0 TX0 2, w ∈ wsX0_shiftsOf := fun w h => (List.mem_cons_of_mem _ (List.mem_append_left _ (List.mem_append_left _ (List.mem_append_left _ (List.mem_append_right _ h)))))
theorem inX0_shiftsOf_X5 : ∀ w ∈ u_ws RX5 TX5 10, w ∈ wsX0_shiftsOf := fun w h => (List.mem_cons_of_mem _ (List.mem_append_left _ (List.mem_append_left _ (List.mem_append_right _ h))))
set_option maxHeartbeats 4000000 in
set_option maxRecDepth 100000 in
theorem bkX0_shiftsOf {l : Launch} {dC : Nat → ClassId} {dI : Nat → Nat → Nat} {cB cI cJ cZ cS : ClassId} {a b : Nat → Nat} {as : List Value} {r : Int32} {s' : JS} (s : JS) (x2 : Int32) (hB : kX0_shiftsOf s x2 = some (r, s')) : BlkI l yX0_shiftsOf wsX0_shiftsOf ({ frames := 3, cells := 0, slots := 0, locals := 76 }) cX0_shiftsOf 3 (some .int) (dC, dI) (tysA cB cI cJ cZ cS) as 0 (wJ cB cI cJ cZ cS a b s) [(0, .ref (a 35)), (1, .ref (b 0)), (2, .int x2)] [] (fun x u => x = r ∧ u = (wJ cB cI cJ cZ cS a b s')) := by
  intro p e s0 m below meth c A E H locs ls hP hD hS hl
  obtain ⟨C, hr, hlocks, hA, hK, hN⟩ := id E
  obtain ⟨hx, hb, hml, hown, hts⟩ := id C
  unfold kX0_shiftsOf at hB
  refine lv_aload_n hx hb dX0_shiftsOf_0 rfl (lv_at hl 0 rfl) ?_
  refine lv_aload_n hx hb dX0_shiftsOf_1 rfl (lv_at hl 1 rfl) ?_
  obtain ⟨s1, hc, hB⟩ := bindP_inv hB
  refine q_govF (va_runV (As := [.ref (b 0)]) (rest := []) C (ckX0_clearVars hc _) (cwV 1 hts gX0_shiftsOf_X0_clearVars rfl rfl rfl (by decide +kernel) ⟨Nat.le_of_ble_eq_true rfl, Nat.le_of_ble_eq_true rfl⟩) (q_preV hK hP (ci := 0) (q0 := 41) rfl rfl rfl (q_preF hN hK hP hD)) rfl rfl hl.1 rfl (lv_room (Nat.le_of_ble_eq_true rfl)) dX0_shiftsOf_2 ⟨Nat.le_of_ble_eq_true rfl, Nat.le_of_ble_eq_true rfl⟩) hD hS hA (fun w1 H locs hw hP hD hS => ?_)
  subst hw
  refine lv_aload_n hx hb dX0_shiftsOf_5 rfl (lv_at hl 0 rfl) ?_
  refine lv_aload_n hx hb dX0_shiftsOf_6 rfl (lv_at hl 1 rfl) ?_
  refine lv_iload_n hx hb dX0_shiftsOf_7 rfl (lv_at hl 2 rfl) ?_
  obtain ⟨s2, hc, hB⟩ := bindP_inv hB
  refine q_govF (va_runV (As := [.ref (b 0), .int x2]) (rest := []) C (ckX0_setWave hc _) (cwV 2 hts gX0_shiftsOf_X0_setWave rfl rfl rfl (by decide +kernel) ⟨Nat.le_of_ble_eq_true rfl, Nat.le_of_ble_eq_true rfl⟩) (q_preV hK hP (ci := 0) (q0 := 41) rfl rfl rfl (q_preF hN hK hP hD)) rfl rfl hl.1 rfl (lv_room (Nat.le_of_ble_eq_true rfl)) dX0_shiftsOf_8 ⟨Nat.le_of_ble_eq_true rfl, Nat.le_of_ble_eq_true rfl⟩) hD hS hA (fun w1 H locs hw hP hD hS => ?_)
  subst hw
  refine lv_bipush (v := 100) hx hb dX0_shiftsOf_11 (by decide) ?_
  refine lv_aload_n hx hb dX0_shiftsOf_13 rfl (lv_at hl 0 rfl) ?_
  refine q_get (v := .ref (a 2)) C inX0_shiftsOf_X0 hK hP 41 rfl rfl 0 (by decide) rfl LX0_shiftsOf_9 rfl dX0_shiftsOf_14 ?_
  refine q_getN (v := .ref (a 8)) C hN inX0_shiftsOf_X5 hK hP 8 rfl rfl 5 (by decide) rfl nwF_X0_15 rfl dX0_shiftsOf_17 ?_
  refine lv_iconst (v := 3) hx hb dX0_shiftsOf_20 (by decide) ?_
  obtain ⟨q_, s3, hc, hB⟩ := bindI_inv hB
  refine q_goi (wr := ((wD cI b s2.d))) (va_runVN (As := [.int 3]) (rest := [.int 100]) C (ckX1_valueOf hc _) ⟨va_cnB 1 hts gX0_shiftsOf_X1_valueOf_n96 rfl rfl rfl (hN _ nwM_X0_96 rfl) (hts _ LX0_shiftsOf_I_X1) (by decide +kernel) ⟨Nat.le_of_ble_eq_true rfl, Nat.le_of_ble_eq_true rfl⟩, hts _ LX0_shiftsOf_N_X1_valueOf, hts _ LX0_shiftsOf_E_X1_valueOf⟩ (q_preV hK hP (ci := 1) (q0 := 14) rfl rfl rfl (q_pre hN hK hP hD [6, 7, 8, 9, 10, 11, 12, 13, 14, 15, 16, 17, 18, 19, 20, 21, 22, 23, 24, 25, 26, 27, 28, 29, 30, 31, 32, 33, 34, 35, 36, 37, 38, 39, 40, 41, 42, 43, 44, 45, 46, 47, 48, 49, 50, 51, 52] (by first | exact zqs_6J | rfl) zqn_6)) rfl rfl hl.1 rfl (lv_room (Nat.le_of_ble_eq_true rfl)) dX0_shiftsOf_21 ⟨Nat.le_of_ble_eq_true rfl, Nat.le_of_ble_eq_true rfl⟩) hP hD hS hA [6, 7, 8, 9, 10, 11, 12, 13, 14, 15, 16, 17, 18, 19, 20, 21, 22, 23, 24, 25, 26, 27, 28, 29, 30, 31, 32, 33, 34, 35, 36, 37, 38, 39, 40, 41, 42, 43, 44, 45, 46, 47, 48, 49, 50, 51, 52] [0, 1, 2, 3, 4, 5] (by first | exact zqs_6J | rfl) (by first | exact zqs_7J | rfl) zqn_7 zqd_3 (fun r4 w1 H locs hw hP hD hS => ?_)
  obtain ⟨hq_, hw⟩ := hw; subst hw; subst hq_
  obtain ⟨s5, hs6, hB⟩ := letS_inv hB
  have hP : va_P (dC, dI) vwCl (wJ cB cI cJ cZ cS a b s5) H := by subst hs6; exact hP
  have hD : va_D A (wJ cB cI cJ cZ cS a b s5) := by subst hs6; exact hD
  obtain ⟨q_, hc, hB⟩ := bindP_inv hB
  refine q_goi0 (va_runSN (As := [.int 100, .int r4]) (rest := []) C (ckX10_heldTo hc _) ⟨va_cnB 2 hts gX0_shiftsOf_X10_heldTo_n99 rfl rfl rfl (hN _ nwM_X0_99 rfl) (hts _ LX0_shiftsOf_I_X10) (by decide +kernel) ⟨Nat.le_of_ble_eq_true rfl, Nat.le_of_ble_eq_true rfl⟩, hts _ LX0_shiftsOf_S_X10_heldTo, trivial⟩ (q_pre0 hN hK) rfl rfl hl.1 rfl (lv_room (Nat.le_of_ble_eq_true rfl)) dX0_shiftsOf_24 ⟨Nat.le_of_ble_eq_true rfl, Nat.le_of_ble_eq_true rfl⟩) hP hD hS hA (fun r7 w1 H locs hw hP hS => ?_)
  subst hw
  exact q_iret C hr hlocks hK hP hD hS (Nat.le_of_ble_eq_true rfl) (Nat.le_of_ble_eq_true rfl) dX0_shiftsOf_27 (by cases hB; exact ⟨rfl, rfl⟩)
theorem ckX0_shiftsOf {l : Launch} {dC : Nat → ClassId} {dI : Nat → Nat → Nat} {cB cI cJ cZ cS : ClassId} {a b : Nat → Nat} {r : Int32} {s' : JS} {s : JS} {x2 : Int32} (hB : kX0_shiftsOf s x2 = some (r, s')) : CI l yX0_shiftsOf wsX0_shiftsOf ({ frames := 3, cells := 0, slots := 0, locals := 76 }) (dC, dI) (tysA cB cI cJ cZ cS) (wJ cB cI cJ cZ cS a b s) [.ref (a 35), .ref (b 0), .int x2] (fun x u => x = r ∧ u = (wJ cB cI cJ cZ cS a b s')) :=
  CI_of (cc := cX0_shiftsOf) (maxL := 3) (ret := (some .int)) (by decide) rfl (Nat.le_of_ble_eq_true rfl) (bkX0_shiftsOf _ _ hB)
theorem LX0_sendBy_9 : Cond.fieldLink RX0 9 "GuessFerry$Crossing" "sound" "LGuessFerry$Sound;" ∈ wsX0_sendBy := (List.mem_cons_of_mem _ (List.mem_append_left _ (List.mem_append_left _ (List.mem_append_left _ (List.mem_append_left _ (List.mem_append_left _ (List.mem_of_getElem? (i := 0) rfl)))))))
theorem LX0_sendBy_I_X10 : Cond.initialized RX10 ∈ wsX0_sendBy := (List.mem_cons_of_mem _ (List.mem_append_left _ (List.mem_append_left _ (List.mem_append_left _ (List.mem_append_left _ (List.mem_append_left _ (List.mem_of_getElem? (i := 5) rfl)))))))
theorem LX0_sendBy_S_X10_thingIn : Cond.static yX10_thingIn ∈ wsX0_sendBy := (List.mem_cons_of_mem _ (List.mem_append_left _ (List.mem_append_left _ (List.mem_append_left _ (List.mem_append_left _ (List.mem_append_left _ (List.mem_of_getElem? (i := 6) rfl)))))))
theorem inX0_sendBy_X0 : ∀ w ∈ u_ws RX0 TX0 2, w ∈ wsX0_sendBy := fun w h => (List.mem_cons_of_mem _ (List.mem_append_left _ (List.mem_append_left _ (List.mem_append_right _ h))))
theorem inX0_sendBy_X5 : ∀ w ∈ u_ws RX5 TX5 10, w ∈ wsX0_sendBy := fun w h => (List.mem_cons_of_mem _ (List.mem_append_left _ (List.mem_append_right _ h)))
theorem inX0_sendBy_X6 : ∀ w ∈ u_ws RX6 TX6 7, w ∈ wsX0_sendBy := fun w h => (List.mem_cons_of_mem _ (List.mem_append_left _ (List.mem_append_left _ (List.mem_append_left _ (List.mem_append_right _ h)))))
set_option maxHeartbeats 4000000 in
set_option maxRecDepth 100000 in
theorem bkX0_sendBy_119 {l : Launch} {dC : Nat → ClassId} {dI : Nat → Nat → Nat} {cB cI cJ cZ cS : ClassId} {a b : Nat → Nat} {as : List Value} {r : Int32} {s' : JS} (s : JS) (x2 : Int32) (x4 : Int32) (x5 : Int32) (hB : kX0_sendBy_119 s x2 x4 x5 = some (r, s')) : BlkI l yX0_sendBy wsX0_sendBy ({ frames := 5, cells := 0, slots := 0, locals := 124 }) cX0_sendBy 8 (some .int) (dC, dI) (tysA cB cI cJ cZ cS) as 119 (wJ cB cI cJ cZ cS a b s) [(1, .ref (b 0)), (2, .int x2), (4, .int x4), (5, .int x5)] [] (fun x u => x = r ∧ u = (wJ cB cI cJ cZ cS a b s')) := by
  intro p e s0 m below meth c A E H locs ls hP hD hS hl
  obtain ⟨C, hr, hlocks, hA, hK, hN⟩ := id E
  obtain ⟨hx, hb, hml, hown, hts⟩ := id C
  unfold kX0_sendBy_119 at hB
  refine lv_aload_n hx hb dX0_sendBy_119 rfl (lv_at hl 0 rfl) ?_
  refine q_getN (v := .ref (b 4)) C hN inX0_sendBy_X6 hK hP 0 rfl rfl 3 (by decide) rfl nwF_X0_122 rfl dX0_sendBy_120 ?_
  refine lv_iload_n hx hb dX0_sendBy_123 rfl (lv_at hl 1 rfl) ?_
  refine lv_iload hx hb dX0_sendBy_124 (lv_at hl 2 rfl) ?_
  obtain ⟨g1, hB⟩ := guard_inv hB
  obtain ⟨s2, hs3, hB⟩ := letS_inv hB
  refine q_iast (f2 := (upd (s.d.f 3) (Int32.toNatClampNeg x2) x4)) (w2 := (wJ cB cI cJ cZ cS a b s2)) C hK hP hD hS 4 1 rfl rfl (vpb_in g1) dX0_sendBy_126 rfl (by subst hs3; rfl) (fun H locs hP hD hS => ?_)
  refine lv_aload_n hx hb dX0_sendBy_127 rfl (lv_at hl 0 rfl) ?_
  refine q_getN (v := .ref (b 5)) C hN inX0_sendBy_X6 hK hP 0 rfl rfl 4 (by decide) rfl nwF_X0_68 rfl dX0_sendBy_128 ?_
  refine lv_iload_n hx hb dX0_sendBy_131 rfl (lv_at hl 1 rfl) ?_
  refine lv_dup2_11 hx hb dX0_sendBy_132 rfl rfl ?_
  obtain ⟨g4, hB⟩ := guard_inv hB
  refine q_iald (x := ((s2.d.f 4) (Int32.toNatClampNeg x2))) C hK hP 5 1 rfl rfl (vpb_in g4) dX0_sendBy_133 rfl ?_
  refine lv_iconst (v := 1) hx hb dX0_sendBy_134 (by decide) ?_
  refine lv_iadd hx hb dX0_sendBy_135 ?_
  obtain ⟨g5, hB⟩ := guard_inv hB
  obtain ⟨s6, hs7, hB⟩ := letS_inv hB
  refine q_iast (f2 := (upd (s2.d.f 4) (Int32.toNatClampNeg x2) (((s2.d.f 4) (Int32.toNatClampNeg x2)) + 1))) (w2 := (wJ cB cI cJ cZ cS a b s6)) C hK hP hD hS 5 1 rfl rfl (vpb_in g5) dX0_sendBy_136 rfl (by subst hs7; rfl) (fun H locs hP hD hS => ?_)
  refine lv_iload hx hb dX0_sendBy_137 (lv_at hl 3 rfl) ?_
  exact q_iret C hr hlocks hK hP hD hS (Nat.le_of_ble_eq_true rfl) (Nat.le_of_ble_eq_true rfl) dX0_sendBy_139 (by cases hB; exact ⟨rfl, rfl⟩)
set_option maxHeartbeats 4000000 in
set_option maxRecDepth 100000 in
theorem bkX0_sendBy_113 {l : Launch} {dC : Nat → ClassId} {dI : Nat → Nat → Nat} {cB cI cJ cZ cS : ClassId} {a b : Nat → Nat} {as : List Value} {r : Int32} {s' : JS} {k24 : JS → Int32 → Int32 → Int32 → Int32 → Int32 → Option (Int32 × JS)} (hk24 : ∀ (s : JS) (x2 : Int32) (x3 : Int32) (x4 : Int32) (x5 : Int32) (x6 : Int32), k24 s x2 x3 x4 x5 x6 = some (r, s') → BlkI l yX0_sendBy wsX0_sendBy ({ frames := 5, cells := 0, slots := 0, locals := 124 }) cX0_sendBy 8 (some .int) (dC, dI) (tysA cB cI cJ cZ cS) as 24 (wJ cB cI cJ cZ cS a b s) [(0, .ref (a 35)), (1, .ref (b 0)), (2, .int x2), (3, .int x3), (4, .int x4), (5, .int x5), (6, .int x6)] [] (fun x u => x = r ∧ u = (wJ cB cI cJ cZ cS a b s'))) (s : JS) (x2 : Int32) (x3 : Int32) (x4 : Int32) (x5 : Int32) (x6 : Int32) (hB : kX0_sendBy_113 k24 s x2 x3 x4 x5 x6 = some (r, s')) : BlkI l yX0_sendBy wsX0_sendBy ({ frames := 5, cells := 0, slots := 0, locals := 124 }) cX0_sendBy 8 (some .int) (dC, dI) (tysA cB cI cJ cZ cS) as 113 (wJ cB cI cJ cZ cS a b s) [(0, .ref (a 35)), (1, .ref (b 0)), (2, .int x2), (3, .int x3), (4, .int x4), (5, .int x5), (6, .int x6)] [] (fun x u => x = r ∧ u = (wJ cB cI cJ cZ cS a b s')) := by
  intro p e s0 m below meth c A E H locs ls hP hD hS hl
  obtain ⟨C, hr, hlocks, hA, hK, hN⟩ := id E
  obtain ⟨hx, hb, hml, hown, hts⟩ := id C
  unfold kX0_sendBy_113 at hB
  refine lv_iinc (v := (x6 + 1)) (lv' := [(6, .int (x6 + 1)), (0, .ref (a 35)), (1, .ref (b 0)), (2, .int x2), (3, .int x3), (4, .int x4), (5, .int x5)]) hx hb dX0_sendBy_113 hl (k := 6) rfl (rfl) (by decide) rfl (fun ls hl => ?_)
  refine lv_goto (tgt := 24) hx hb dX0_sendBy_116 (by decide) ?_
  exact hk24 _ _ _ _ _ _ hB p e s0 m below meth c A E H locs ls hP hD hS (lv_sub hl [1, 2, 3, 4, 5, 6, 0] rfl)
set_option maxHeartbeats 4000000 in
set_option maxRecDepth 100000 in
theorem bkX0_sendBy_24 {l : Launch} {dC : Nat → ClassId} {dI : Nat → Nat → Nat} {cB cI cJ cZ cS : ClassId} {a b : Nat → Nat} {as : List Value} {r : Int32} {s' : JS} {k24 : JS → Int32 → Int32 → Int32 → Int32 → Int32 → Option (Int32 × JS)} (hk24 : ∀ (s : JS) (x2 : Int32) (x3 : Int32) (x4 : Int32) (x5 : Int32) (x6 : Int32), k24 s x2 x3 x4 x5 x6 = some (r, s') → BlkI l yX0_sendBy wsX0_sendBy ({ frames := 5, cells := 0, slots := 0, locals := 124 }) cX0_sendBy 8 (some .int) (dC, dI) (tysA cB cI cJ cZ cS) as 24 (wJ cB cI cJ cZ cS a b s) [(0, .ref (a 35)), (1, .ref (b 0)), (2, .int x2), (3, .int x3), (4, .int x4), (5, .int x5), (6, .int x6)] [] (fun x u => x = r ∧ u = (wJ cB cI cJ cZ cS a b s'))) (s : JS) (x2 : Int32) (x3 : Int32) (x4 : Int32) (x5 : Int32) (x6 : Int32) (hB : kX0_sendBy_24 k24 s x2 x3 x4 x5 x6 = some (r, s')) : BlkI l yX0_sendBy wsX0_sendBy ({ frames := 5, cells := 0, slots := 0, locals := 124 }) cX0_sendBy 8 (some .int) (dC, dI) (tysA cB cI cJ cZ cS) as 24 (wJ cB cI cJ cZ cS a b s) [(0, .ref (a 35)), (1, .ref (b 0)), (2, .int x2), (3, .int x3), (4, .int x4), (5, .int x5), (6, .int x6)] [] (fun x u => x = r ∧ u = (wJ cB cI cJ cZ cS a b s')) := by
  intro p e s0 m below meth c A E H locs ls hP hD hS hl
  obtain ⟨C, hr, hlocks, hA, hK, hN⟩ := id E
  obtain ⟨hx, hb, hml, hown, hts⟩ := id C
  unfold kX0_sendBy_24 at hB
  refine lv_iload hx hb dX0_sendBy_24 (lv_at hl 6 rfl) ?_
  refine lv_aload_n hx hb dX0_sendBy_26 rfl (lv_at hl 0 rfl) ?_
  refine q_get (v := .ref (a 2)) C inX0_sendBy_X0 hK hP 41 rfl rfl 0 (by decide) rfl LX0_sendBy_9 rfl dX0_sendBy_27 ?_
  refine q_getN (v := .int (s.k.v 1)) C hN inX0_sendBy_X5 hK hP 8 rfl rfl 6 (by decide) rfl nwF_X0_50 rfl dX0_sendBy_30 ?_
  refine lv_icmp_ge (tgt := 119) hx hb dX0_sendBy_33 (by decide) (fun c1 => ?_) (fun c1 => ?_)
  · have hB := if_p hB c1
    exact bkX0_sendBy_119 _ _ _ _ hB p e s0 m below meth c A E H locs ls hP hD hS (lv_sub hl [1, 2, 4, 5] rfl)
  · have hB := if_n hB c1
    refine lv_iload hx hb dX0_sendBy_36 (lv_at hl 4 rfl) ?_
    refine lv_iconst (v := 2) hx hb dX0_sendBy_38 (by decide) ?_
    refine lv_icmp_ne (tgt := 119) hx hb dX0_sendBy_39 (by decide) (fun c2 => ?_) (fun c2 => ?_)
    · have hB := if_n hB c2
      exact bkX0_sendBy_119 _ _ _ _ hB p e s0 m below meth c A E H locs ls hP hD hS (lv_sub hl [1, 2, 4, 5] rfl)
    · have hB := if_p hB c2
      refine lv_iload_n hx hb dX0_sendBy_42 rfl (lv_at hl 3 rfl) ?_
      refine lv_iload hx hb dX0_sendBy_43 (lv_at hl 6 rfl) ?_
      obtain ⟨q_, hc, hB⟩ := bindP_inv hB
      refine q_goi0 (va_runSN (As := [.int x3, .int x6]) (rest := []) C (ckX10_thingIn hc _) ⟨va_cnB 2 hts gX0_sendBy_X10_thingIn_n112 rfl rfl rfl (hN _ nwM_X0_112 rfl) (hts _ LX0_sendBy_I_X10) (by decide +kernel) ⟨Nat.le_of_ble_eq_true rfl, Nat.le_of_ble_eq_true rfl⟩, hts _ LX0_sendBy_S_X10_thingIn, trivial⟩ (q_pre0 hN hK) rfl rfl hl.1 rfl (lv_room (Nat.le_of_ble_eq_true rfl)) dX0_sendBy_45 ⟨Nat.le_of_ble_eq_true rfl, Nat.le_of_ble_eq_true rfl⟩) hP hD hS hA (fun r3 w1 H locs hw hP hS => ?_)
      subst hw
      refine lv_istore (lv' := [(7, .int r3), (0, .ref (a 35)), (1, .ref (b 0)), (2, .int x2), (3, .int x3), (4, .int x4), (5, .int x5), (6, .int x6)]) hx hb dX0_sendBy_48 hl (by decide) rfl (fun ls hl => ?_)
      refine lv_aload_n hx hb dX0_sendBy_50 rfl (lv_at hl 1 rfl) ?_
      refine lv_aload_n hx hb dX0_sendBy_51 rfl (lv_at hl 2 rfl) ?_
      refine lv_iload_n hx hb dX0_sendBy_52 rfl (lv_at hl 3 rfl) ?_
      refine lv_iload hx hb dX0_sendBy_53 (lv_at hl 7 rfl) ?_
      refine lv_iload hx hb dX0_sendBy_55 (lv_at hl 0 rfl) ?_
      obtain ⟨q_, s4, hc, hB⟩ := bindI_inv hB
      refine q_goiF (va_runV (As := [.ref (b 0), .int x2, .int x6, .int r3]) (rest := []) C (ckX0_isBearing hc _) (cwV 4 hts gX0_sendBy_X0_isBearing rfl rfl rfl (by decide +kernel) ⟨Nat.le_of_ble_eq_true rfl, Nat.le_of_ble_eq_true rfl⟩) (q_preV hK hP (ci := 0) (q0 := 41) rfl rfl rfl (q_preF hN hK hP hD)) rfl rfl hl.1 rfl (lv_room (Nat.le_of_ble_eq_true rfl)) dX0_sendBy_57 ⟨Nat.le_of_ble_eq_true rfl, Nat.le_of_ble_eq_true rfl⟩) hD hS hA (fun r5 w1 H locs hw hP hD hS => ?_)
      obtain ⟨hq_, hw⟩ := hw; subst hw; subst hq_
      refine lv_if_ne (tgt := 69) hx hb dX0_sendBy_60 (by decide) (fun c6 => ?_) (fun c6 => ?_)
      · have hB := if_n hB c6
        refine lv_iload hx hb dX0_sendBy_69 (lv_at hl 0 rfl) ?_
        refine lv_aload_n hx hb dX0_sendBy_71 rfl (lv_at hl 1 rfl) ?_
        refine lv_aload_n hx hb dX0_sendBy_72 rfl (lv_at hl 2 rfl) ?_
        refine lv_iload hx hb dX0_sendBy_73 (lv_at hl 7 rfl) ?_
        obtain ⟨q_, s7, hc, hB⟩ := bindI_inv hB
        refine q_goiF (va_runV (As := [.ref (b 0), .int x6]) (rest := [.int r3]) C (ckX0_thereNow hc _) (cwV 2 hts gX0_sendBy_X0_thereNow rfl rfl rfl (by decide +kernel) ⟨Nat.le_of_ble_eq_true rfl, Nat.le_of_ble_eq_true rfl⟩) (q_preV hK hP (ci := 0) (q0 := 41) rfl rfl rfl (q_preF hN hK hP hD)) rfl rfl hl.1 rfl (lv_room (Nat.le_of_ble_eq_true rfl)) dX0_sendBy_75 ⟨Nat.le_of_ble_eq_true rfl, Nat.le_of_ble_eq_true rfl⟩) hD hS hA (fun r8 w1 H locs hw hP hD hS => ?_)
        obtain ⟨hq_, hw⟩ := hw; subst hw; subst hq_
        refine lv_icmp_eq (tgt := 101) hx hb dX0_sendBy_78 (by decide) (fun c9 => ?_) (fun c9 => ?_)
        · have hB := if_p hB c9
          refine lv_aload_n hx hb dX0_sendBy_101 rfl (lv_at hl 2 rfl) ?_
          refine q_getN (v := .ref (b 1)) C hN inX0_sendBy_X6 hK hP 0 rfl rfl 0 (by decide) rfl nwF_X0_28 rfl dX0_sendBy_102 ?_
          refine lv_iload hx hb dX0_sendBy_105 (lv_at hl 7 rfl) ?_
          refine lv_iload hx hb dX0_sendBy_107 (lv_at hl 0 rfl) ?_
          obtain ⟨g10, hB⟩ := guard_inv hB
          obtain ⟨s11, hs12, hB⟩ := letS_inv hB
          refine q_iast (f2 := (upd (s7.d.f 0) (Int32.toNatClampNeg x6) r3)) (w2 := (wJ cB cI cJ cZ cS a b s11)) C hK hP hD hS 1 1 rfl rfl (vpb_in g10) dX0_sendBy_109 rfl (by subst hs12; rfl) (fun H locs hP hD hS => ?_)
          refine lv_iinc (v := (x5 + 1)) (lv' := [(5, .int (x5 + 1)), (7, .int r3), (0, .ref (a 35)), (1, .ref (b 0)), (2, .int x2), (3, .int x3), (4, .int x4), (6, .int x6)]) hx hb dX0_sendBy_110 hl (k := 6) rfl (rfl) (by decide) rfl (fun ls hl => ?_)
          exact bkX0_sendBy_113 (hk24) _ _ _ _ _ _ hB p e s0 m below meth c A E H locs ls hP hD hS (lv_sub hl [2, 3, 4, 5, 6, 0, 7] rfl)
        · have hB := if_n hB c9
          refine lv_aload_n hx hb dX0_sendBy_81 rfl (lv_at hl 2 rfl) ?_
          refine q_getN (v := .ref (b 2)) C hN inX0_sendBy_X6 hK hP 0 rfl rfl 1 (by decide) rfl nwF_X0_36 rfl dX0_sendBy_82 ?_
          refine lv_iload hx hb dX0_sendBy_85 (lv_at hl 7 rfl) ?_
          refine lv_dup2_11 hx hb dX0_sendBy_87 rfl rfl ?_
          obtain ⟨g13, hB⟩ := guard_inv hB
          refine q_iald (x := ((s7.d.f 1) (Int32.toNatClampNeg x6))) C hK hP 2 1 rfl rfl (vpb_in g13) dX0_sendBy_88 rfl ?_
          refine lv_iconst (v := 1) hx hb dX0_sendBy_89 (by decide) ?_
          refine lv_iload hx hb dX0_sendBy_90 (lv_at hl 0 rfl) ?_
          refine lv_ishl hx hb dX0_sendBy_92 ?_
          refine lv_ior hx hb dX0_sendBy_93 ?_
          obtain ⟨g14, hB⟩ := guard_inv hB
          obtain ⟨s15, hs16, hB⟩ := letS_inv hB
          refine q_iast (f2 := (upd (s7.d.f 1) (Int32.toNatClampNeg x6) (((s7.d.f 1) (Int32.toNatClampNeg x6)) ||| (1 <<< (r3 &&& 31))))) (w2 := (wJ cB cI cJ cZ cS a b s15)) C hK hP hD hS 2 1 rfl rfl (vpb_in g14) dX0_sendBy_94 rfl (by subst hs16; rfl) (fun H locs hP hD hS => ?_)
          refine lv_iconst (v := 0) hx hb dX0_sendBy_95 (by decide) ?_
          refine lv_istore (lv' := [(4, .int 0), (7, .int r3), (0, .ref (a 35)), (1, .ref (b 0)), (2, .int x2), (3, .int x3), (5, .int x5), (6, .int x6)]) hx hb dX0_sendBy_96 hl (by decide) rfl (fun ls hl => ?_)
          refine lv_goto (tgt := 113) hx hb dX0_sendBy_98 (by decide) ?_
          exact bkX0_sendBy_113 (hk24) _ _ _ _ _ _ hB p e s0 m below meth c A E H locs ls hP hD hS (lv_sub hl [2, 3, 4, 5, 0, 6, 7] rfl)
      · have hB := if_p hB c6
        refine lv_iconst (v := 1) hx hb dX0_sendBy_63 (by decide) ?_
        refine lv_istore (lv' := [(4, .int 1), (7, .int r3), (0, .ref (a 35)), (1, .ref (b 0)), (2, .int x2), (3, .int x3), (5, .int x5), (6, .int x6)]) hx hb dX0_sendBy_64 hl (by decide) rfl (fun ls hl => ?_)
        refine lv_goto (tgt := 113) hx hb dX0_sendBy_66 (by decide) ?_
        exact bkX0_sendBy_113 (hk24) _ _ _ _ _ _ hB p e s0 m below meth c A E H locs ls hP hD hS (lv_sub hl [2, 3, 4, 5, 0, 6, 7] rfl)
theorem bkX0_sendBy_24L {l : Launch} {dC : Nat → ClassId} {dI : Nat → Nat → Nat} {cB cI cJ cZ cS : ClassId} {a b : Nat → Nat} {as : List Value} {r : Int32} {s' : JS} : ∀ (n : Nat) (s : JS) (x2 : Int32) (x3 : Int32) (x4 : Int32) (x5 : Int32) (x6 : Int32), kX0_sendBy_24L n s x2 x3 x4 x5 x6 = some (r, s') → BlkI l yX0_sendBy wsX0_sendBy ({ frames := 5, cells := 0, slots := 0, locals := 124 }) cX0_sendBy 8 (some .int) (dC, dI) (tysA cB cI cJ cZ cS) as 24 (wJ cB cI cJ cZ cS a b s) [(0, .ref (a 35)), (1, .ref (b 0)), (2, .int x2), (3, .int x3), (4, .int x4), (5, .int x5), (6, .int x6)] [] (fun x u => x = r ∧ u = (wJ cB cI cJ cZ cS a b s')) := by
  intro n
  induction n with
  | zero => intro s x2 x3 x4 x5 x6 hB; exact none_ne hB
  | succ n ih => intro s x2 x3 x4 x5 x6 hB; exact bkX0_sendBy_24 ih _ _ _ _ _ _ hB
set_option maxHeartbeats 4000000 in
set_option maxRecDepth 100000 in
theorem bkX0_sendBy {l : Launch} {dC : Nat → ClassId} {dI : Nat → Nat → Nat} {cB cI cJ cZ cS : ClassId} {a b : Nat → Nat} {as : List Value} {r : Int32} {s' : JS} (s : JS) (x2 : Int32) (x3 : Int32) (hB : kX0_sendBy s x2 x3 = some (r, s')) : BlkI l yX0_sendBy wsX0_sendBy ({ frames := 5, cells := 0, slots := 0, locals := 124 }) cX0_sendBy 8 (some .int) (dC, dI) (tysA cB cI cJ cZ cS) as 0 (wJ cB cI cJ cZ cS a b s) [(0, .ref (a 35)), (1, .ref (b 0)), (2, .int x2), (3, .int x3)] [] (fun x u => x = r ∧ u = (wJ cB cI cJ cZ cS a b s')) := by
  intro p e s0 m below meth c A E H locs ls hP hD hS hl
  obtain ⟨C, hr, hlocks, hA, hK, hN⟩ := id E
  obtain ⟨hx, hb, hml, hown, hts⟩ := id C
  unfold kX0_sendBy at hB
  refine lv_aload_n hx hb dX0_sendBy_0 rfl (lv_at hl 1 rfl) ?_
  refine lv_dup hx hb dX0_sendBy_1 rfl ?_
  refine q_getN (v := .int (s.d.v 6)) C hN inX0_sendBy_X6 hK hP 0 rfl rfl 6 (by decide) rfl nwF_X0_106 rfl dX0_sendBy_2 ?_
  refine lv_aload_n hx hb dX0_sendBy_5 rfl (lv_at hl 0 rfl) ?_
  refine lv_aload_n hx hb dX0_sendBy_6 rfl (lv_at hl 1 rfl) ?_
  refine lv_iload_n hx hb dX0_sendBy_7 rfl (lv_at hl 2 rfl) ?_
  obtain ⟨q_, s1, hc, hB⟩ := bindI_inv hB
  refine q_goiF (va_runV (As := [.ref (b 0), .int x2]) (rest := [.int (s.d.v 6), .ref (b 0)]) C (ckX0_fareOf hc _) (cwV 2 hts gX0_sendBy_X0_fareOf rfl rfl rfl (by decide +kernel) ⟨Nat.le_of_ble_eq_true rfl, Nat.le_of_ble_eq_true rfl⟩) (q_preV hK hP (ci := 0) (q0 := 41) rfl rfl rfl (q_preF hN hK hP hD)) rfl rfl hl.1 rfl (lv_room (Nat.le_of_ble_eq_true rfl)) dX0_sendBy_8 ⟨Nat.le_of_ble_eq_true rfl, Nat.le_of_ble_eq_true rfl⟩) hD hS hA (fun r2 w1 H locs hw hP hD hS => ?_)
  obtain ⟨hq_, hw⟩ := hw; subst hw; subst hq_
  refine lv_iadd hx hb dX0_sendBy_11 ?_
  obtain ⟨s3, hs4, hB⟩ := letS_inv hB
  refine q_putN (ty := .int) (w2 := (wJ cB cI cJ cZ cS a b s3)) tyX6 tyX6_ok nmX6 C hN inX0_sendBy_X6 hK hP hD hS 0 rfl rfl 6 (by decide) rfl nwF_X0_106 rfl (by decide +kernel) (rfl) rfl (Nat.le_of_ble_eq_true rfl) dX0_sendBy_12 (by subst hs4; rfl) (fun H locs hP hD hS => ?_)
  refine lv_iconst (v := 2) hx hb dX0_sendBy_15 (by decide) ?_
  refine lv_istore (lv' := [(4, .int 2), (0, .ref (a 35)), (1, .ref (b 0)), (2, .int x2), (3, .int x3)]) hx hb dX0_sendBy_16 hl (by decide) rfl (fun ls hl => ?_)
  refine lv_iconst (v := 0) hx hb dX0_sendBy_18 (by decide) ?_
  refine lv_istore (lv' := [(5, .int 0), (4, .int 2), (0, .ref (a 35)), (1, .ref (b 0)), (2, .int x2), (3, .int x3)]) hx hb dX0_sendBy_19 hl (by decide) rfl (fun ls hl => ?_)
  refine lv_iconst (v := 0) hx hb dX0_sendBy_21 (by decide) ?_
  refine lv_istore (lv' := [(6, .int 0), (5, .int 0), (4, .int 2), (0, .ref (a 35)), (1, .ref (b 0)), (2, .int x2), (3, .int x3)]) hx hb dX0_sendBy_22 hl (by decide) rfl (fun ls hl => ?_)
  exact bkX0_sendBy_24L fu _ _ _ _ _ _ hB p e s0 m below meth c A E H locs ls hP hD hS (lv_sub hl [3, 4, 5, 6, 2, 1, 0] rfl)
theorem ckX0_sendBy {l : Launch} {dC : Nat → ClassId} {dI : Nat → Nat → Nat} {cB cI cJ cZ cS : ClassId} {a b : Nat → Nat} {r : Int32} {s' : JS} {s : JS} {x2 : Int32} {x3 : Int32} (hB : kX0_sendBy s x2 x3 = some (r, s')) : CI l yX0_sendBy wsX0_sendBy ({ frames := 5, cells := 0, slots := 0, locals := 124 }) (dC, dI) (tysA cB cI cJ cZ cS) (wJ cB cI cJ cZ cS a b s) [.ref (a 35), .ref (b 0), .int x2, .int x3] (fun x u => x = r ∧ u = (wJ cB cI cJ cZ cS a b s')) :=
  CI_of (cc := cX0_sendBy) (maxL := 8) (ret := (some .int)) (by decide) rfl (Nat.le_of_ble_eq_true rfl) (bkX0_sendBy _ _ _ hB)
theorem LX0_passYearOver_9 : Cond.fieldLink RX0 9 "GuessFerry$Crossing" "sound" "LGuessFerry$Sound;" ∈ wsX0_passYearOver := (List.mem_cons_of_mem _ (List.mem_append_left _ (List.mem_append_left _ (List.mem_append_left _ (List.mem_append_left _ (List.mem_append_left _ (List.mem_of_getElem? (i := 0) rfl)))))))
theorem LX0_passYearOver_I_X10 : Cond.initialized RX10 ∈ wsX0_passYearOver := (List.mem_cons_of_mem _ (List.mem_append_left _ (List.mem_append_left _ (List.mem_append_left _ (List.mem_append_left _ (List.mem_append_left _ (List.mem_of_getElem? (i := 3) rfl)))))))
theorem LX0_passYearOver_K128 : Cond.constant RX0 128 1000000 ∈ wsX0_passYearOver := (List.mem_cons_of_mem _ (List.mem_append_left _ (List.mem_append_left _ (List.mem_append_left _ (List.mem_append_left _ (List.mem_append_left _ (List.mem_of_getElem? (i := 1) rfl)))))))
theorem LX0_passYearOver_S_X10_lot : Cond.static yX10_lot ∈ wsX0_passYearOver := (List.mem_cons_of_mem _ (List.mem_append_left _ (List.mem_append_left _ (List.mem_append_left _ (List.mem_append_left _ (List.mem_append_left _ (List.mem_of_getElem? (i := 2) rfl)))))))
theorem inX0_passYearOver_X0 : ∀ w ∈ u_ws RX0 TX0 2, w ∈ wsX0_passYearOver := fun w h => (List.mem_cons_of_mem _ (List.mem_append_left _ (List.mem_append_left _ (List.mem_append_left _ (List.mem_append_right _ h)))))
theorem inX0_passYearOver_X5 : ∀ w ∈ u_ws RX5 TX5 10, w ∈ wsX0_passYearOver := fun w h => (List.mem_cons_of_mem _ (List.mem_append_left _ (List.mem_append_left _ (List.mem_append_right _ h))))
theorem inX0_passYearOver_X6 : ∀ w ∈ u_ws RX6 TX6 7, w ∈ wsX0_passYearOver := fun w h => (List.mem_cons_of_mem _ (List.mem_append_left _ (List.mem_append_right _ h)))
set_option maxHeartbeats 4000000 in
set_option maxRecDepth 100000 in
theorem bkX0_passYearOver {l : Launch} {dC : Nat → ClassId} {dI : Nat → Nat → Nat} {cB cI cJ cZ cS : ClassId} {a b : Nat → Nat} {as : List Value} {s' : JS} (s : JS) (x2 : Int32) (hB : kX0_passYearOver s x2 = some s') : BlkV l yX0_passYearOver wsX0_passYearOver ({ frames := 4, cells := 0, slots := 0, locals := 98 }) cX0_passYearOver 4 none (dC, dI) (tysA cB cI cJ cZ cS) as 0 (wJ cB cI cJ cZ cS a b s) [(0, .ref (a 35)), (1, .ref (b 0)), (2, .int x2)] [] (fun u => u = (wJ cB cI cJ cZ cS a b s')) := by
  intro p e s0 m below meth c A E H locs ls hP hD hS hl
  obtain ⟨C, hr, hlocks, hA, hK, hN⟩ := id E
  obtain ⟨hx, hb, hml, hown, hts⟩ := id C
  unfold kX0_passYearOver at hB
  refine lv_bipush (v := 100) hx hb dX0_passYearOver_0 (by decide) ?_
  refine lv_aload_n hx hb dX0_passYearOver_2 rfl (lv_at hl 0 rfl) ?_
  refine q_get (v := .ref (a 2)) C inX0_passYearOver_X0 hK hP 41 rfl rfl 0 (by decide) rfl LX0_passYearOver_9 rfl dX0_passYearOver_3 ?_
  refine q_getN (v := .int (s.k.v 4)) C hN inX0_passYearOver_X5 hK hP 8 rfl rfl 9 (by decide) rfl nwF_X0_42 rfl dX0_passYearOver_6 ?_
  refine lv_bipush (v := 8) hx hb dX0_passYearOver_9 (by decide) ?_
  refine lv_aload_n hx hb dX0_passYearOver_11 rfl (lv_at hl 1 rfl) ?_
  refine q_getN (v := .int (s.d.v 5)) C hN inX0_passYearOver_X6 hK hP 0 rfl rfl 5 (by decide) rfl nwF_X0_59 rfl dX0_passYearOver_12 ?_
  refine lv_imul hx hb dX0_passYearOver_15 ?_
  refine lv_ldc (v := 1000000) hx hb hown (hts _ LX0_passYearOver_K128) dX0_passYearOver_16 ?_
  refine lv_iadd hx hb dX0_passYearOver_18 ?_
  refine lv_iload_n hx hb dX0_passYearOver_19 rfl (lv_at hl 2 rfl) ?_
  refine lv_iadd hx hb dX0_passYearOver_20 ?_
  obtain ⟨q_, hc, hB⟩ := bindP_inv hB
  refine q_goi0 (va_runSN (As := [.int 100, .int (s.k.v 4), .int (((8 * (s.d.v 5)) + 1000000) + x2)]) (rest := []) C (ckX10_lot hc _) ⟨va_cnB 3 hts gX0_passYearOver_X10_lot_n129 rfl rfl rfl (hN _ nwM_X0_129 rfl) (hts _ LX0_passYearOver_I_X10) (by decide +kernel) ⟨Nat.le_of_ble_eq_true rfl, Nat.le_of_ble_eq_true rfl⟩, hts _ LX0_passYearOver_S_X10_lot, trivial⟩ (q_pre0 hN hK) rfl rfl hl.1 rfl (lv_room (Nat.le_of_ble_eq_true rfl)) dX0_passYearOver_21 ⟨Nat.le_of_ble_eq_true rfl, Nat.le_of_ble_eq_true rfl⟩) hP hD hS hA (fun r1 w1 H locs hw hP hS => ?_)
  subst hw
  refine lv_istore_n (lv' := [(3, .int r1), (0, .ref (a 35)), (1, .ref (b 0)), (2, .int x2)]) hx hb dX0_passYearOver_24 rfl hl (by decide) rfl (fun ls hl => ?_)
  refine lv_iload_n hx hb dX0_passYearOver_25 rfl (lv_at hl 0 rfl) ?_
  refine lv_aload_n hx hb dX0_passYearOver_26 rfl (lv_at hl 1 rfl) ?_
  refine lv_aload_n hx hb dX0_passYearOver_27 rfl (lv_at hl 2 rfl) ?_
  refine lv_iload_n hx hb dX0_passYearOver_28 rfl (lv_at hl 3 rfl) ?_
  obtain ⟨q_, s2, hc, hB⟩ := bindI_inv hB
  refine q_goiF (va_runV (As := [.ref (b 0), .int x2]) (rest := [.int r1]) C (ckX0_shiftsOf hc _) (cwV 2 hts gX0_passYearOver_X0_shiftsOf rfl rfl rfl (by decide +kernel) ⟨Nat.le_of_ble_eq_true rfl, Nat.le_of_ble_eq_true rfl⟩) (q_preV hK hP (ci := 0) (q0 := 41) rfl rfl rfl (q_preF hN hK hP hD)) rfl rfl hl.1 rfl (lv_room (Nat.le_of_ble_eq_true rfl)) dX0_passYearOver_29 ⟨Nat.le_of_ble_eq_true rfl, Nat.le_of_ble_eq_true rfl⟩) hD hS hA (fun r3 w1 H locs hw hP hD hS => ?_)
  obtain ⟨hq_, hw⟩ := hw; subst hw; subst hq_
  refine lv_icmp_ge (tgt := 59) hx hb dX0_passYearOver_32 (by decide) (fun c4 => ?_) (fun c4 => ?_)
  · have hB := if_p hB c4
    exact q_vret C hr hlocks hK hP hD hS (Nat.le_of_ble_eq_true rfl) (Nat.le_of_ble_eq_true rfl) dX0_passYearOver_59 (by cases hB; rfl)
  · have hB := if_n hB c4
    refine lv_aload_n hx hb dX0_passYearOver_35 rfl (lv_at hl 2 rfl) ?_
    refine q_getN (v := .ref (b 3)) C hN inX0_passYearOver_X6 hK hP 0 rfl rfl 2 (by decide) rfl nwF_X0_39 rfl dX0_passYearOver_36 ?_
    refine lv_iload_n hx hb dX0_passYearOver_39 rfl (lv_at hl 3 rfl) ?_
    refine lv_dup2_11 hx hb dX0_passYearOver_40 rfl rfl ?_
    obtain ⟨g5, hB⟩ := guard_inv hB
    refine q_iald (x := ((s2.d.f 2) (Int32.toNatClampNeg x2))) C hK hP 3 1 rfl rfl (vpb_in g5) dX0_passYearOver_41 rfl ?_
    refine lv_iconst (v := 1) hx hb dX0_passYearOver_42 (by decide) ?_
    refine lv_iadd hx hb dX0_passYearOver_43 ?_
    obtain ⟨g6, hB⟩ := guard_inv hB
    obtain ⟨s7, hs8, hB⟩ := letS_inv hB
    refine q_iast (f2 := (upd (s2.d.f 2) (Int32.toNatClampNeg x2) (((s2.d.f 2) (Int32.toNatClampNeg x2)) + 1))) (w2 := (wJ cB cI cJ cZ cS a b s7)) C hK hP hD hS 3 1 rfl rfl (vpb_in g6) dX0_passYearOver_44 rfl (by subst hs8; rfl) (fun H locs hP hD hS => ?_)
    refine lv_aload_n hx hb dX0_passYearOver_45 rfl (lv_at hl 2 rfl) ?_
    refine q_getN (v := .ref (b 1)) C hN inX0_passYearOver_X6 hK hP 0 rfl rfl 0 (by decide) rfl nwF_X0_28 rfl dX0_passYearOver_46 ?_
    refine lv_iload_n hx hb dX0_passYearOver_49 rfl (lv_at hl 3 rfl) ?_
    refine lv_iconst (v := (-1)) hx hb dX0_passYearOver_50 (by decide) ?_
    obtain ⟨g9, hB⟩ := guard_inv hB
    obtain ⟨s10, hs11, hB⟩ := letS_inv hB
    refine q_iast (f2 := (upd (s7.d.f 0) (Int32.toNatClampNeg x2) (-1))) (w2 := (wJ cB cI cJ cZ cS a b s10)) C hK hP hD hS 1 1 rfl rfl (vpb_in g9) dX0_passYearOver_51 rfl (by subst hs11; rfl) (fun H locs hP hD hS => ?_)
    refine lv_aload_n hx hb dX0_passYearOver_52 rfl (lv_at hl 2 rfl) ?_
    refine q_getN (v := .ref (b 2)) C hN inX0_passYearOver_X6 hK hP 0 rfl rfl 1 (by decide) rfl nwF_X0_36 rfl dX0_passYearOver_53 ?_
    refine lv_iload_n hx hb dX0_passYearOver_56 rfl (lv_at hl 3 rfl) ?_
    refine lv_iconst (v := 0) hx hb dX0_passYearOver_57 (by decide) ?_
    obtain ⟨g12, hB⟩ := guard_inv hB
    obtain ⟨s13, hs14, hB⟩ := letS_inv hB
    refine q_iast (f2 := (upd (s10.d.f 1) (Int32.toNatClampNeg x2) 0)) (w2 := (wJ cB cI cJ cZ cS a b s13)) C hK hP hD hS 2 1 rfl rfl (vpb_in g12) dX0_passYearOver_58 rfl (by subst hs14; rfl) (fun H locs hP hD hS => ?_)
    exact q_vret C hr hlocks hK hP hD hS (Nat.le_of_ble_eq_true rfl) (Nat.le_of_ble_eq_true rfl) dX0_passYearOver_59 (by cases hB; rfl)
theorem ckX0_passYearOver {l : Launch} {dC : Nat → ClassId} {dI : Nat → Nat → Nat} {cB cI cJ cZ cS : ClassId} {a b : Nat → Nat} {s' : JS} {s : JS} {x2 : Int32} (hB : kX0_passYearOver s x2 = some s') : CV l yX0_passYearOver wsX0_passYearOver ({ frames := 4, cells := 0, slots := 0, locals := 98 }) (dC, dI) (tysA cB cI cJ cZ cS) (wJ cB cI cJ cZ cS a b s) [.ref (a 35), .ref (b 0), .int x2] (fun u => u = (wJ cB cI cJ cZ cS a b s')) :=
  CV_of (cc := cX0_passYearOver) (maxL := 4) (ret := none) (by decide) rfl (Nat.le_of_ble_eq_true rfl) (bkX0_passYearOver _ _ hB)
theorem LX2_bestThing_28 : Cond.fieldLink RX2 28 "GuessFerry$Outlook" "crossing" "LGuessFerry$Crossing;" ∈ wsX2_bestThing := (List.mem_cons_of_mem _ (List.mem_append_left _ (List.mem_append_left _ (List.mem_append_left _ (List.mem_append_left _ (List.mem_append_left _ (List.mem_append_left _ (List.mem_of_getElem? (i := 0) rfl))))))))
theorem LX2_bestThing_E_X0_needOf : Cond.selects RX0 yX0_needOf yX0_needOf ∈ wsX2_bestThing := (List.mem_cons_of_mem _ (List.mem_append_left _ (List.mem_append_left _ (List.mem_append_left _ (List.mem_append_left _ (List.mem_append_left _ (List.mem_append_left _ (List.mem_of_getElem? (i := 7) rfl))))))))
theorem LX2_bestThing_I_X0 : Cond.initialized RX0 ∈ wsX2_bestThing := (List.mem_cons_of_mem _ (List.mem_append_left _ (List.mem_append_left _ (List.mem_append_left _ (List.mem_append_left _ (List.mem_append_left _ (List.mem_append_left _ (List.mem_of_getElem? (i := 5) rfl))))))))
theorem LX2_bestThing_N_X0_needOf : Cond.instanceMethod yX0_needOf ∈ wsX2_bestThing := (List.mem_cons_of_mem _ (List.mem_append_left _ (List.mem_append_left _ (List.mem_append_left _ (List.mem_append_left _ (List.mem_append_left _ (List.mem_append_left _ (List.mem_of_getElem? (i := 6) rfl))))))))
theorem inX2_bestThing_X2 : ∀ w ∈ u_ws RX2 TX2 6, w ∈ wsX2_bestThing := fun w h => (List.mem_cons_of_mem _ (List.mem_append_left _ (List.mem_append_left _ (List.mem_append_left _ (List.mem_append_left _ (List.mem_append_right _ h))))))
set_option maxHeartbeats 4000000 in
set_option maxRecDepth 100000 in
theorem bkX2_bestThing_63 {l : Launch} {dC : Nat → ClassId} {dI : Nat → Nat → Nat} {cB cI cJ cZ cS : ClassId} {a b : Nat → Nat} {as : List Value} {r : Int32} {s' : JS} {k9 : JS → Int32 → Int32 → Int32 → Int32 → Int32 → Option (Int32 × JS)} (hk9 : ∀ (s : JS) (x2 : Int32) (x3 : Int32) (x4 : Int32) (x5 : Int32) (x6 : Int32), k9 s x2 x3 x4 x5 x6 = some (r, s') → BlkI l yX2_bestThing wsX2_bestThing ({ frames := 4, cells := 0, slots := 0, locals := 100 }) cX2_bestThing 8 (some .int) (dC, dI) (tysA cB cI cJ cZ cS) as 9 (wJ cB cI cJ cZ cS a b s) [(0, .ref (a 36)), (1, .ref (b 0)), (2, .int x2), (3, .int x3), (4, .int x4), (5, .int x5), (6, .int x6)] [] (fun x u => x = r ∧ u = (wJ cB cI cJ cZ cS a b s'))) (s : JS) (x2 : Int32) (x3 : Int32) (x4 : Int32) (x5 : Int32) (x6 : Int32) (hB : kX2_bestThing_63 k9 s x2 x3 x4 x5 x6 = some (r, s')) : BlkI l yX2_bestThing wsX2_bestThing ({ frames := 4, cells := 0, slots := 0, locals := 100 }) cX2_bestThing 8 (some .int) (dC, dI) (tysA cB cI cJ cZ cS) as 63 (wJ cB cI cJ cZ cS a b s) [(0, .ref (a 36)), (1, .ref (b 0)), (2, .int x2), (3, .int x3), (4, .int x4), (5, .int x5), (6, .int x6)] [] (fun x u => x = r ∧ u = (wJ cB cI cJ cZ cS a b s')) := by
  intro p e s0 m below meth c A E H locs ls hP hD hS hl
  obtain ⟨C, hr, hlocks, hA, hK, hN⟩ := id E
  obtain ⟨hx, hb, hml, hown, hts⟩ := id C
  unfold kX2_bestThing_63 at hB
  refine lv_iinc (v := (x6 + 1)) (lv' := [(6, .int (x6 + 1)), (0, .ref (a 36)), (1, .ref (b 0)), (2, .int x2), (3, .int x3), (4, .int x4), (5, .int x5)]) hx hb dX2_bestThing_63 hl (k := 6) rfl (rfl) (by decide) rfl (fun ls hl => ?_)
  refine lv_goto (tgt := 9) hx hb dX2_bestThing_66 (by decide) ?_
  exact hk9 _ _ _ _ _ _ hB p e s0 m below meth c A E H locs ls hP hD hS (lv_sub hl [1, 2, 3, 4, 5, 6, 0] rfl)
set_option maxHeartbeats 4000000 in
set_option maxRecDepth 100000 in
theorem bkX2_bestThing_55 {l : Launch} {dC : Nat → ClassId} {dI : Nat → Nat → Nat} {cB cI cJ cZ cS : ClassId} {a b : Nat → Nat} {as : List Value} {r : Int32} {s' : JS} {k9 : JS → Int32 → Int32 → Int32 → Int32 → Int32 → Option (Int32 × JS)} (hk9 : ∀ (s : JS) (x2 : Int32) (x3 : Int32) (x4 : Int32) (x5 : Int32) (x6 : Int32), k9 s x2 x3 x4 x5 x6 = some (r, s') → BlkI l yX2_bestThing wsX2_bestThing ({ frames := 4, cells := 0, slots := 0, locals := 100 }) cX2_bestThing 8 (some .int) (dC, dI) (tysA cB cI cJ cZ cS) as 9 (wJ cB cI cJ cZ cS a b s) [(0, .ref (a 36)), (1, .ref (b 0)), (2, .int x2), (3, .int x3), (4, .int x4), (5, .int x5), (6, .int x6)] [] (fun x u => x = r ∧ u = (wJ cB cI cJ cZ cS a b s'))) (s : JS) (x2 : Int32) (x3 : Int32) (x6 : Int32) (x7 : Int32) (hB : kX2_bestThing_55 k9 s x2 x3 x6 x7 = some (r, s')) : BlkI l yX2_bestThing wsX2_bestThing ({ frames := 4, cells := 0, slots := 0, locals := 100 }) cX2_bestThing 8 (some .int) (dC, dI) (tysA cB cI cJ cZ cS) as 55 (wJ cB cI cJ cZ cS a b s) [(0, .ref (a 36)), (1, .ref (b 0)), (2, .int x2), (3, .int x3), (6, .int x6), (7, .int x7)] [] (fun x u => x = r ∧ u = (wJ cB cI cJ cZ cS a b s')) := by
  intro p e s0 m below meth c A E H locs ls hP hD hS hl
  obtain ⟨C, hr, hlocks, hA, hK, hN⟩ := id E
  obtain ⟨hx, hb, hml, hown, hts⟩ := id C
  unfold kX2_bestThing_55 at hB
  refine lv_iload hx hb dX2_bestThing_55 (lv_at hl 4 rfl) ?_
  refine lv_istore (lv' := [(4, .int x6), (0, .ref (a 36)), (1, .ref (b 0)), (2, .int x2), (3, .int x3), (6, .int x6), (7, .int x7)]) hx hb dX2_bestThing_57 hl (by decide) rfl (fun ls hl => ?_)
  refine lv_iload hx hb dX2_bestThing_59 (lv_at hl 6 rfl) ?_
  refine lv_istore (lv' := [(5, .int x7), (4, .int x6), (0, .ref (a 36)), (1, .ref (b 0)), (2, .int x2), (3, .int x3), (6, .int x6), (7, .int x7)]) hx hb dX2_bestThing_61 hl (by decide) rfl (fun ls hl => ?_)
  exact bkX2_bestThing_63 (hk9) _ _ _ _ _ _ hB p e s0 m below meth c A E H locs ls hP hD hS (lv_sub hl [2, 3, 4, 5, 1, 0, 6] rfl)
set_option maxHeartbeats 4000000 in
set_option maxRecDepth 100000 in
theorem bkX2_bestThing_9 {l : Launch} {dC : Nat → ClassId} {dI : Nat → Nat → Nat} {cB cI cJ cZ cS : ClassId} {a b : Nat → Nat} {as : List Value} {r : Int32} {s' : JS} {k9 : JS → Int32 → Int32 → Int32 → Int32 → Int32 → Option (Int32 × JS)} (hk9 : ∀ (s : JS) (x2 : Int32) (x3 : Int32) (x4 : Int32) (x5 : Int32) (x6 : Int32), k9 s x2 x3 x4 x5 x6 = some (r, s') → BlkI l yX2_bestThing wsX2_bestThing ({ frames := 4, cells := 0, slots := 0, locals := 100 }) cX2_bestThing 8 (some .int) (dC, dI) (tysA cB cI cJ cZ cS) as 9 (wJ cB cI cJ cZ cS a b s) [(0, .ref (a 36)), (1, .ref (b 0)), (2, .int x2), (3, .int x3), (4, .int x4), (5, .int x5), (6, .int x6)] [] (fun x u => x = r ∧ u = (wJ cB cI cJ cZ cS a b s'))) (s : JS) (x2 : Int32) (x3 : Int32) (x4 : Int32) (x5 : Int32) (x6 : Int32) (hB : kX2_bestThing_9 k9 s x2 x3 x4 x5 x6 = some (r, s')) : BlkI l yX2_bestThing wsX2_bestThing ({ frames := 4, cells := 0, slots := 0, locals := 100 }) cX2_bestThing 8 (some .int) (dC, dI) (tysA cB cI cJ cZ cS) as 9 (wJ cB cI cJ cZ cS a b s) [(0, .ref (a 36)), (1, .ref (b 0)), (2, .int x2), (3, .int x3), (4, .int x4), (5, .int x5), (6, .int x6)] [] (fun x u => x = r ∧ u = (wJ cB cI cJ cZ cS a b s')) := by
  intro p e s0 m below meth c A E H locs ls hP hD hS hl
  obtain ⟨C, hr, hlocks, hA, hK, hN⟩ := id E
  obtain ⟨hx, hb, hml, hown, hts⟩ := id C
  unfold kX2_bestThing_9 at hB
  refine lv_iload hx hb dX2_bestThing_9 (lv_at hl 6 rfl) ?_
  refine lv_bipush (v := 6) hx hb dX2_bestThing_11 (by decide) ?_
  refine lv_icmp_ge (tgt := 69) hx hb dX2_bestThing_13 (by decide) (fun c1 => ?_) (fun c1 => ?_)
  · have hB := if_p hB c1
    refine lv_iload hx hb dX2_bestThing_69 (lv_at hl 4 rfl) ?_
    exact q_iret C hr hlocks hK hP hD hS (Nat.le_of_ble_eq_true rfl) (Nat.le_of_ble_eq_true rfl) dX2_bestThing_71 (by cases hB; exact ⟨rfl, rfl⟩)
  · have hB := if_n hB c1
    refine lv_aload_n hx hb dX2_bestThing_16 rfl (lv_at hl 0 rfl) ?_
    refine lv_aload_n hx hb dX2_bestThing_17 rfl (lv_at hl 1 rfl) ?_
    refine lv_iload_n hx hb dX2_bestThing_18 rfl (lv_at hl 3 rfl) ?_
    refine lv_iload hx hb dX2_bestThing_19 (lv_at hl 6 rfl) ?_
    obtain ⟨q_, s2, hc, hB⟩ := bindI_inv hB
    refine q_goiF (va_runV (As := [.ref (b 0), .int x3, .int x6]) (rest := []) C (ckX2_oddsIfMay hc _) (cwV 3 hts gX2_bestThing_X2_oddsIfMay rfl rfl rfl (by decide +kernel) ⟨Nat.le_of_ble_eq_true rfl, Nat.le_of_ble_eq_true rfl⟩) (q_preV hK hP (ci := 2) (q0 := 42) rfl rfl rfl (q_preF hN hK hP hD)) rfl rfl hl.1 rfl (lv_room (Nat.le_of_ble_eq_true rfl)) dX2_bestThing_21 ⟨Nat.le_of_ble_eq_true rfl, Nat.le_of_ble_eq_true rfl⟩) hD hS hA (fun r3 w1 H locs hw hP hD hS => ?_)
    obtain ⟨hq_, hw⟩ := hw; subst hw; subst hq_
    refine lv_istore (lv' := [(7, .int r3), (0, .ref (a 36)), (1, .ref (b 0)), (2, .int x2), (3, .int x3), (4, .int x4), (5, .int x5), (6, .int x6)]) hx hb dX2_bestThing_24 hl (by decide) rfl (fun ls hl => ?_)
    refine lv_iload hx hb dX2_bestThing_26 (lv_at hl 0 rfl) ?_
    refine lv_iload hx hb dX2_bestThing_28 (lv_at hl 6 rfl) ?_
    refine lv_icmp_le (tgt := 63) hx hb dX2_bestThing_30 (by decide) (fun c4 => ?_) (fun c4 => ?_)
    · have hB := if_p hB c4
      exact bkX2_bestThing_63 (hk9) _ _ _ _ _ _ hB p e s0 m below meth c A E H locs ls hP hD hS (lv_sub hl [1, 2, 3, 4, 5, 6, 7] rfl)
    · have hB := if_n hB c4
      refine lv_iload_n hx hb dX2_bestThing_33 rfl (lv_at hl 3 rfl) ?_
      refine lv_iconst (v := (-1)) hx hb dX2_bestThing_34 (by decide) ?_
      refine lv_icmp_eq (tgt := 55) hx hb dX2_bestThing_35 (by decide) (fun c5 => ?_) (fun c5 => ?_)
      · have hB := if_p hB c5
        exact bkX2_bestThing_55 (hk9) _ _ _ _ _ hB p e s0 m below meth c A E H locs ls hP hD hS (lv_sub hl [1, 2, 3, 4, 7, 0] rfl)
      · have hB := if_n hB c5
        refine lv_iload hx hb dX2_bestThing_38 (lv_at hl 0 rfl) ?_
        refine lv_aload_n hx hb dX2_bestThing_40 rfl (lv_at hl 1 rfl) ?_
        refine q_get (v := .ref (a 35)) C inX2_bestThing_X2 hK hP 42 rfl rfl 1 (by decide) rfl LX2_bestThing_28 rfl dX2_bestThing_41 ?_
        refine lv_aload_n hx hb dX2_bestThing_44 rfl (lv_at hl 2 rfl) ?_
        refine lv_iload_n hx hb dX2_bestThing_45 rfl (lv_at hl 3 rfl) ?_
        refine lv_iload_n hx hb dX2_bestThing_46 rfl (lv_at hl 4 rfl) ?_
        refine lv_iload hx hb dX2_bestThing_47 (lv_at hl 7 rfl) ?_
        obtain ⟨q_, s6, hc, hB⟩ := bindI_inv hB
        refine q_goiF (va_runVN (As := [.ref (b 0), .int x2, .int x3, .int x6]) (rest := [.int r3]) C (ckX0_needOf hc _) ⟨va_cnB 4 hts gX2_bestThing_X0_needOf_n71 rfl rfl rfl (hN _ nwM_X2_71 rfl) (hts _ LX2_bestThing_I_X0) (by decide +kernel) ⟨Nat.le_of_ble_eq_true rfl, Nat.le_of_ble_eq_true rfl⟩, hts _ LX2_bestThing_N_X0_needOf, hts _ LX2_bestThing_E_X0_needOf⟩ (q_preV hK hP (ci := 0) (q0 := 41) rfl rfl rfl (q_preF hN hK hP hD)) rfl rfl hl.1 rfl (lv_room (Nat.le_of_ble_eq_true rfl)) dX2_bestThing_49 ⟨Nat.le_of_ble_eq_true rfl, Nat.le_of_ble_eq_true rfl⟩) hD hS hA (fun r7 w1 H locs hw hP hD hS => ?_)
        obtain ⟨hq_, hw⟩ := hw; subst hw; subst hq_
        refine lv_icmp_lt (tgt := 63) hx hb dX2_bestThing_52 (by decide) (fun c8 => ?_) (fun c8 => ?_)
        · have hB := if_p hB c8
          exact bkX2_bestThing_63 (hk9) _ _ _ _ _ _ hB p e s0 m below meth c A E H locs ls hP hD hS (lv_sub hl [1, 2, 3, 4, 5, 6, 7] rfl)
        · have hB := if_n hB c8
          exact bkX2_bestThing_55 (hk9) _ _ _ _ _ hB p e s0 m below meth c A E H locs ls hP hD hS (lv_sub hl [1, 2, 3, 4, 7, 0] rfl)
theorem bkX2_bestThing_9L {l : Launch} {dC : Nat → ClassId} {dI : Nat → Nat → Nat} {cB cI cJ cZ cS : ClassId} {a b : Nat → Nat} {as : List Value} {r : Int32} {s' : JS} : ∀ (n : Nat) (s : JS) (x2 : Int32) (x3 : Int32) (x4 : Int32) (x5 : Int32) (x6 : Int32), kX2_bestThing_9L n s x2 x3 x4 x5 x6 = some (r, s') → BlkI l yX2_bestThing wsX2_bestThing ({ frames := 4, cells := 0, slots := 0, locals := 100 }) cX2_bestThing 8 (some .int) (dC, dI) (tysA cB cI cJ cZ cS) as 9 (wJ cB cI cJ cZ cS a b s) [(0, .ref (a 36)), (1, .ref (b 0)), (2, .int x2), (3, .int x3), (4, .int x4), (5, .int x5), (6, .int x6)] [] (fun x u => x = r ∧ u = (wJ cB cI cJ cZ cS a b s')) := by
  intro n
  induction n with
  | zero => intro s x2 x3 x4 x5 x6 hB; exact none_ne hB
  | succ n ih => intro s x2 x3 x4 x5 x6 hB; exact bkX2_bestThing_9 ih _ _ _ _ _ _ hB
set_option maxHeartbeats 4000000 in
set_option maxRecDepth 100000 in
theorem bkX2_bestThing {l : Launch} {dC : Nat → ClassId} {dI : Nat → Nat → Nat} {cB cI cJ cZ cS : ClassId} {a b : Nat → Nat} {as : List Value} {r : Int32} {s' : JS} (s : JS) (x2 : Int32) (x3 : Int32) (hB : kX2_bestThing s x2 x3 = some (r, s')) : BlkI l yX2_bestThing wsX2_bestThing ({ frames := 4, cells := 0, slots := 0, locals := 100 }) cX2_bestThing 8 (some .int) (dC, dI) (tysA cB cI cJ cZ cS) as 0 (wJ cB cI cJ cZ cS a b s) [(0, .ref (a 36)), (1, .ref (b 0)), (2, .int x2), (3, .int x3)] [] (fun x u => x = r ∧ u = (wJ cB cI cJ cZ cS a b s')) := by
  intro p e s0 m below meth c A E H locs ls hP hD hS hl
  obtain ⟨C, hr, hlocks, hA, hK, hN⟩ := id E
  obtain ⟨hx, hb, hml, hown, hts⟩ := id C
  unfold kX2_bestThing at hB
  refine lv_iconst (v := (-1)) hx hb dX2_bestThing_0 (by decide) ?_
  refine lv_istore (lv' := [(4, .int (-1)), (0, .ref (a 36)), (1, .ref (b 0)), (2, .int x2), (3, .int x3)]) hx hb dX2_bestThing_1 hl (by decide) rfl (fun ls hl => ?_)
  refine lv_iconst (v := 0) hx hb dX2_bestThing_3 (by decide) ?_
  refine lv_istore (lv' := [(5, .int 0), (4, .int (-1)), (0, .ref (a 36)), (1, .ref (b 0)), (2, .int x2), (3, .int x3)]) hx hb dX2_bestThing_4 hl (by decide) rfl (fun ls hl => ?_)
  refine lv_iconst (v := 0) hx hb dX2_bestThing_6 (by decide) ?_
  refine lv_istore (lv' := [(6, .int 0), (5, .int 0), (4, .int (-1)), (0, .ref (a 36)), (1, .ref (b 0)), (2, .int x2), (3, .int x3)]) hx hb dX2_bestThing_7 hl (by decide) rfl (fun ls hl => ?_)
  exact bkX2_bestThing_9L fu _ _ _ _ _ _ hB p e s0 m below meth c A E H locs ls hP hD hS (lv_sub hl [3, 4, 5, 6, 2, 1, 0] rfl)
theorem ckX2_bestThing {l : Launch} {dC : Nat → ClassId} {dI : Nat → Nat → Nat} {cB cI cJ cZ cS : ClassId} {a b : Nat → Nat} {r : Int32} {s' : JS} {s : JS} {x2 : Int32} {x3 : Int32} (hB : kX2_bestThing s x2 x3 = some (r, s')) : CI l yX2_bestThing wsX2_bestThing ({ frames := 4, cells := 0, slots := 0, locals := 100 }) (dC, dI) (tysA cB cI cJ cZ cS) (wJ cB cI cJ cZ cS a b s) [.ref (a 36), .ref (b 0), .int x2, .int x3] (fun x u => x = r ∧ u = (wJ cB cI cJ cZ cS a b s')) :=
  CI_of (cc := cX2_bestThing) (maxL := 8) (ret := (some .int)) (by decide) rfl (Nat.le_of_ble_eq_true rfl) (bkX2_bestThing _ _ _ hB)
end
