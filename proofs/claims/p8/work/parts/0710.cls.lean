theorem ggX8_waveToAsk_X8_sortByLies : GoodIn wsX8_waveToAsk wsX8_sortByLies := gi_sub (fun w h => List.mem_cons_of_mem _ (List.mem_append_left _ (List.mem_append_left _ (List.mem_append_right _ (List.mem_append_left _ h))))) gd_wsX8_sortByLies
set_option maxRecDepth 20000 in
theorem gX8_waveToAsk_X8_sortByLies : GoodIn wsX8_waveToAsk (wsV RX8 72 RX8 yX8_sortByLies wsX8_sortByLies) := goodIn_app (goodIn_r _ [6, 7, 8, 9] (by decide +kernel) (by decide +kernel)) ggX8_waveToAsk_X8_sortByLies
theorem ggX8_waveToAsk_X8_fittingWith : GoodIn wsX8_waveToAsk wsX8_fittingWith := gi_sub (fun w h => List.mem_cons_of_mem _ (List.mem_append_left _ (List.mem_append_left _ (List.mem_append_right _ (List.mem_append_right _ h))))) gd_wsX8_fittingWith
set_option maxRecDepth 20000 in
theorem gX8_waveToAsk_X8_fittingWith : GoodIn wsX8_waveToAsk (wsV RX8 80 RX8 yX8_fittingWith wsX8_fittingWith) := goodIn_app (goodIn_r _ [10, 11, 12, 9] (by decide +kernel) (by decide +kernel)) ggX8_waveToAsk_X8_fittingWith
theorem dX8_waveToAsk_0 : decode cX8_waveToAsk 0 = .ok (.bipush (-2), 2) := dcb_16 (n := 254) (by decide +kernel)
theorem dX8_waveToAsk_2 : decode cX8_waveToAsk 2 = .ok (.istore_n 2, 1) := dc1_61 (by decide +kernel)
theorem dX8_waveToAsk_3 : decode cX8_waveToAsk 3 = .ok (.iconst 0, 1) := dc1_3 (by decide +kernel)
theorem dX8_waveToAsk_4 : decode cX8_waveToAsk 4 = .ok (.istore_n 3, 1) := dc1_62 (by decide +kernel)
theorem dX8_waveToAsk_5 : decode cX8_waveToAsk 5 = .ok (.iconst 0, 1) := dc1_3 (by decide +kernel)
theorem dX8_waveToAsk_6 : decode cX8_waveToAsk 6 = .ok (.istore 4, 2) := dcu_54 (by decide +kernel)
theorem dX8_waveToAsk_8 : decode cX8_waveToAsk 8 = .ok (.iload 4, 2) := dcu_21 (by decide +kernel)
theorem dX8_waveToAsk_10 : decode cX8_waveToAsk 10 = .ok (.aload_n 0, 1) := dc1_42 (by decide +kernel)
theorem dX8_waveToAsk_11 : decode cX8_waveToAsk 11 = .ok (.getfield 27, 3) := dcw_180 (by decide +kernel)
theorem dX8_waveToAsk_14 : decode cX8_waveToAsk 14 = .ok (.getfield 39, 3) := dcw_180 (by decide +kernel)
theorem dX8_waveToAsk_17 : decode cX8_waveToAsk 17 = .ok (.if_icmp .ge 74, 3) := dcs_162 (n := 74) (by decide +kernel)
theorem dX8_waveToAsk_20 : decode cX8_waveToAsk 20 = .ok (.aload_n 0, 1) := dc1_42 (by decide +kernel)
theorem dX8_waveToAsk_21 : decode cX8_waveToAsk 21 = .ok (.iload 4, 2) := dcu_21 (by decide +kernel)
theorem dX8_waveToAsk_23 : decode cX8_waveToAsk 23 = .ok (.iconst 0, 1) := dc1_3 (by decide +kernel)
theorem dX8_waveToAsk_24 : decode cX8_waveToAsk 24 = .ok (.invokevirtual 72, 3) := dcw_182 (by decide +kernel)
theorem dX8_waveToAsk_27 : decode cX8_waveToAsk 27 = .ok (.iconst 0, 1) := dc1_3 (by decide +kernel)
theorem dX8_waveToAsk_28 : decode cX8_waveToAsk 28 = .ok (.istore 5, 2) := dcu_54 (by decide +kernel)
theorem dX8_waveToAsk_30 : decode cX8_waveToAsk 30 = .ok (.iconst 0, 1) := dc1_3 (by decide +kernel)
theorem dX8_waveToAsk_31 : decode cX8_waveToAsk 31 = .ok (.istore 6, 2) := dcu_54 (by decide +kernel)
theorem dX8_waveToAsk_33 : decode cX8_waveToAsk 33 = .ok (.iload 6, 2) := dcu_21 (by decide +kernel)
theorem dX8_waveToAsk_35 : decode cX8_waveToAsk 35 = .ok (.bipush 6, 2) := dcb_16 (n := 6) (by decide +kernel)
theorem dX8_waveToAsk_37 : decode cX8_waveToAsk 37 = .ok (.if_icmp .ge 25, 3) := dcs_162 (n := 25) (by decide +kernel)
theorem dX8_waveToAsk_40 : decode cX8_waveToAsk 40 = .ok (.iload 5, 2) := dcu_21 (by decide +kernel)
theorem dX8_waveToAsk_42 : decode cX8_waveToAsk 42 = .ok (.aload_n 0, 1) := dc1_42 (by decide +kernel)
theorem dX8_waveToAsk_43 : decode cX8_waveToAsk 43 = .ok (.iload 4, 2) := dcu_21 (by decide +kernel)
theorem dX8_waveToAsk_45 : decode cX8_waveToAsk 45 = .ok (.iload 6, 2) := dcu_21 (by decide +kernel)
theorem dX8_waveToAsk_47 : decode cX8_waveToAsk 47 = .ok (.iload_n 1, 1) := dc1_27 (by decide +kernel)
theorem dX8_waveToAsk_48 : decode cX8_waveToAsk 48 = .ok (.invokevirtual 80, 3) := dcw_182 (by decide +kernel)
theorem dX8_waveToAsk_51 : decode cX8_waveToAsk 51 = .ok (.invokestatic 83, 3) := dcw_184 (by decide +kernel)
theorem dX8_waveToAsk_54 : decode cX8_waveToAsk 54 = .ok (.istore 5, 2) := dcu_54 (by decide +kernel)
theorem dX8_waveToAsk_56 : decode cX8_waveToAsk 56 = .ok (.iinc 6 1, 3) := dc_iinc (m := 1) (by decide +kernel)
theorem dX8_waveToAsk_59 : decode cX8_waveToAsk 59 = .ok (.goto (-26), 3) := dcs_167 (n := 65510) (by decide +kernel)
theorem dX8_waveToAsk_62 : decode cX8_waveToAsk 62 = .ok (.iload 5, 2) := dcu_21 (by decide +kernel)
theorem dX8_waveToAsk_64 : decode cX8_waveToAsk 64 = .ok (.ifCond .le 21, 3) := dcs_158 (n := 21) (by decide +kernel)
theorem dX8_waveToAsk_67 : decode cX8_waveToAsk 67 = .ok (.iload_n 2, 1) := dc1_28 (by decide +kernel)
theorem dX8_waveToAsk_68 : decode cX8_waveToAsk 68 = .ok (.bipush (-2), 2) := dcb_16 (n := 254) (by decide +kernel)
theorem dX8_waveToAsk_70 : decode cX8_waveToAsk 70 = .ok (.if_icmp .eq 9, 3) := dcs_159 (n := 9) (by decide +kernel)
theorem dX8_waveToAsk_73 : decode cX8_waveToAsk 73 = .ok (.iload 5, 2) := dcu_21 (by decide +kernel)
theorem dX8_waveToAsk_75 : decode cX8_waveToAsk 75 = .ok (.iload_n 3, 1) := dc1_29 (by decide +kernel)
theorem dX8_waveToAsk_76 : decode cX8_waveToAsk 76 = .ok (.if_icmp .ge 9, 3) := dcs_162 (n := 9) (by decide +kernel)
theorem dX8_waveToAsk_79 : decode cX8_waveToAsk 79 = .ok (.iload 4, 2) := dcu_21 (by decide +kernel)
theorem dX8_waveToAsk_81 : decode cX8_waveToAsk 81 = .ok (.istore_n 2, 1) := dc1_61 (by decide +kernel)
theorem dX8_waveToAsk_82 : decode cX8_waveToAsk 82 = .ok (.iload 5, 2) := dcu_21 (by decide +kernel)
theorem dX8_waveToAsk_84 : decode cX8_waveToAsk 84 = .ok (.istore_n 3, 1) := dc1_62 (by decide +kernel)
theorem dX8_waveToAsk_85 : decode cX8_waveToAsk 85 = .ok (.iinc 4 1, 3) := dc_iinc (m := 1) (by decide +kernel)
theorem dX8_waveToAsk_88 : decode cX8_waveToAsk 88 = .ok (.goto (-80), 3) := dcs_167 (n := 65456) (by decide +kernel)
theorem dX8_waveToAsk_91 : decode cX8_waveToAsk 91 = .ok (.iload_n 2, 1) := dc1_28 (by decide +kernel)
theorem dX8_waveToAsk_92 : decode cX8_waveToAsk 92 = .ok (.ireturn, 1) := dc1_172 (by decide +kernel)
theorem ggX10_odds_X5_hasWave : GoodIn wsX10_odds wsX5_hasWave := gi_sub (fun w h => List.mem_cons_of_mem _ (List.mem_append_left _ (List.mem_append_left _ (List.mem_append_right _ (List.mem_append_left _ h))))) gd_wsX5_hasWave
set_option maxRecDepth 20000 in
theorem gX10_odds_X5_hasWave_n108 : GoodIn wsX10_odds (wsX5_hasWave) := ggX10_odds_X5_hasWave
theorem ggX10_odds_X10_isThing : GoodIn wsX10_odds wsX10_isThing := gi_sub (fun w h => List.mem_cons_of_mem _ (List.mem_append_left _ (List.mem_append_left _ (List.mem_append_right _ (List.mem_append_right _ (List.mem_append_left _ h)))))) gd_wsX10_isThing
set_option maxRecDepth 20000 in
theorem gX10_odds_X10_isThing : GoodIn wsX10_odds (va_wsS RX10 131 yX10_isThing wsX10_isThing) := goodIn_app (goodIn_of _ (by decide +kernel)) ggX10_odds_X10_isThing
theorem ggX10_odds_X5_oddsAt : GoodIn wsX10_odds wsX5_oddsAt := gi_sub (fun w h => List.mem_cons_of_mem _ (List.mem_append_left _ (List.mem_append_left _ (List.mem_append_right _ (List.mem_append_right _ (List.mem_append_right _ h)))))) gd_wsX5_oddsAt
set_option maxRecDepth 20000 in
theorem gX10_odds_X5_oddsAt_n134 : GoodIn wsX10_odds (wsX5_oddsAt) := ggX10_odds_X5_oddsAt
theorem dX10_odds_0 : decode cX10_odds 0 = .ok (.aload_n 0, 1) := dc1_42 (by decide +kernel)
theorem dX10_odds_1 : decode cX10_odds 1 = .ok (.getfield 19, 3) := dcw_180 (by decide +kernel)
theorem dX10_odds_4 : decode cX10_odds 4 = .ok (.iload_n 1, 1) := dc1_27 (by decide +kernel)
theorem dX10_odds_5 : decode cX10_odds 5 = .ok (.invokevirtual 108, 3) := dcw_182 (by decide +kernel)
theorem dX10_odds_8 : decode cX10_odds 8 = .ok (.ifCond .eq 22, 3) := dcs_153 (n := 22) (by decide +kernel)
theorem dX10_odds_11 : decode cX10_odds 11 = .ok (.iload_n 2, 1) := dc1_28 (by decide +kernel)
theorem dX10_odds_12 : decode cX10_odds 12 = .ok (.invokestatic 131, 3) := dcw_184 (by decide +kernel)
theorem dX10_odds_15 : decode cX10_odds 15 = .ok (.ifCond .eq 15, 3) := dcs_153 (n := 15) (by decide +kernel)
theorem dX10_odds_18 : decode cX10_odds 18 = .ok (.aload_n 0, 1) := dc1_42 (by decide +kernel)
theorem dX10_odds_19 : decode cX10_odds 19 = .ok (.getfield 19, 3) := dcw_180 (by decide +kernel)
theorem dX10_odds_22 : decode cX10_odds 22 = .ok (.iload_n 1, 1) := dc1_27 (by decide +kernel)
theorem dX10_odds_23 : decode cX10_odds 23 = .ok (.iload_n 2, 1) := dc1_28 (by decide +kernel)
theorem dX10_odds_24 : decode cX10_odds 24 = .ok (.invokevirtual 134, 3) := dcw_182 (by decide +kernel)
theorem dX10_odds_27 : decode cX10_odds 27 = .ok (.goto 4, 3) := dcs_167 (n := 4) (by decide +kernel)
theorem dX10_odds_30 : decode cX10_odds 30 = .ok (.iconst (-1), 1) := dc1_2 (by decide +kernel)
theorem dX10_odds_31 : decode cX10_odds 31 = .ok (.ireturn, 1) := dc1_172 (by decide +kernel)
theorem ggX10_cases_X2_caseCount : GoodIn wsX10_cases wsX2_caseCount := gi_sub (fun w h => List.mem_cons_of_mem _ (List.mem_append_left _ (List.mem_append_left _ (List.mem_append_left _ (List.mem_append_left _ (List.mem_append_left _ (List.mem_append_right _ h))))))) gd_wsX2_caseCount
set_option maxRecDepth 20000 in
theorem gX10_cases_X2_caseCount_n196 : GoodIn wsX10_cases (wsX2_caseCount) := ggX10_cases_X2_caseCount
theorem dX10_cases_0 : decode cX10_cases 0 = .ok (.aload_n 0, 1) := dc1_42 (by decide +kernel)
theorem dX10_cases_1 : decode cX10_cases 1 = .ok (.getfield 63, 3) := dcw_180 (by decide +kernel)
theorem dX10_cases_4 : decode cX10_cases 4 = .ok (.aload_n 0, 1) := dc1_42 (by decide +kernel)
theorem dX10_cases_5 : decode cX10_cases 5 = .ok (.getfield 35, 3) := dcw_180 (by decide +kernel)
theorem dX10_cases_8 : decode cX10_cases 8 = .ok (.invokevirtual 196, 3) := dcw_182 (by decide +kernel)
theorem dX10_cases_11 : decode cX10_cases 11 = .ok (.ireturn, 1) := dc1_172 (by decide +kernel)
theorem ggX10_chance_X5_hasGuess : GoodIn wsX10_chance wsX5_hasGuess := gi_sub (fun w h => List.mem_cons_of_mem _ (List.mem_append_left _ (List.mem_append_left _ (List.mem_append_left _ (List.mem_append_left _ (List.mem_append_left _ (List.mem_append_right _ (List.mem_append_left _ h)))))))) gd_wsX5_hasGuess
set_option maxRecDepth 20000 in
theorem gX10_chance_X5_hasGuess_n170 : GoodIn wsX10_chance (wsX5_hasGuess) := ggX10_chance_X5_hasGuess
theorem ggX10_chance_X2_oddsOf : GoodIn wsX10_chance wsX2_oddsOf := gi_sub (fun w h => List.mem_cons_of_mem _ (List.mem_append_left _ (List.mem_append_left _ (List.mem_append_left _ (List.mem_append_left _ (List.mem_append_left _ (List.mem_append_right _ (List.mem_append_right _ h)))))))) gd_wsX2_oddsOf
set_option maxRecDepth 20000 in
theorem gX10_chance_X2_oddsOf_n200 : GoodIn wsX10_chance (wsX2_oddsOf) := ggX10_chance_X2_oddsOf
theorem dX10_chance_0 : decode cX10_chance 0 = .ok (.aload_n 0, 1) := dc1_42 (by decide +kernel)
theorem dX10_chance_1 : decode cX10_chance 1 = .ok (.getfield 19, 3) := dcw_180 (by decide +kernel)
theorem dX10_chance_4 : decode cX10_chance 4 = .ok (.iload_n 1, 1) := dc1_27 (by decide +kernel)
theorem dX10_chance_5 : decode cX10_chance 5 = .ok (.invokevirtual 170, 3) := dcw_182 (by decide +kernel)
theorem dX10_chance_8 : decode cX10_chance 8 = .ok (.ifCond .eq 18, 3) := dcs_153 (n := 18) (by decide +kernel)
theorem dX10_chance_11 : decode cX10_chance 11 = .ok (.aload_n 0, 1) := dc1_42 (by decide +kernel)
theorem dX10_chance_12 : decode cX10_chance 12 = .ok (.getfield 63, 3) := dcw_180 (by decide +kernel)
theorem dX10_chance_15 : decode cX10_chance 15 = .ok (.aload_n 0, 1) := dc1_42 (by decide +kernel)
theorem dX10_chance_16 : decode cX10_chance 16 = .ok (.getfield 35, 3) := dcw_180 (by decide +kernel)
theorem dX10_chance_19 : decode cX10_chance 19 = .ok (.iload_n 1, 1) := dc1_27 (by decide +kernel)
theorem dX10_chance_20 : decode cX10_chance 20 = .ok (.invokevirtual 200, 3) := dcw_182 (by decide +kernel)
theorem dX10_chance_23 : decode cX10_chance 23 = .ok (.goto 4, 3) := dcs_167 (n := 4) (by decide +kernel)
theorem dX10_chance_26 : decode cX10_chance 26 = .ok (.iconst (-1), 1) := dc1_2 (by decide +kernel)
theorem dX10_chance_27 : decode cX10_chance 27 = .ok (.ireturn, 1) := dc1_172 (by decide +kernel)
theorem ggX10_enough_X2_caseCount : GoodIn wsX10_enough wsX2_caseCount := gi_sub (fun w h => List.mem_cons_of_mem _ (List.mem_append_left _ (List.mem_append_left _ (List.mem_append_left _ (List.mem_append_left _ (List.mem_append_left _ (List.mem_append_right _ (List.mem_append_left _ h)))))))) gd_wsX2_caseCount
set_option maxRecDepth 20000 in
theorem gX10_enough_X2_caseCount_n196 : GoodIn wsX10_enough (wsX2_caseCount) := ggX10_enough_X2_caseCount
theorem ggX10_enough_X2_goesAtMost : GoodIn wsX10_enough wsX2_goesAtMost := gi_sub (fun w h => List.mem_cons_of_mem _ (List.mem_append_left _ (List.mem_append_left _ (List.mem_append_left _ (List.mem_append_left _ (List.mem_append_left _ (List.mem_append_right _ (List.mem_append_right _ h)))))))) gd_wsX2_goesAtMost
set_option maxRecDepth 20000 in
theorem gX10_enough_X2_goesAtMost_n212 : GoodIn wsX10_enough (wsX2_goesAtMost) := ggX10_enough_X2_goesAtMost
theorem dX10_enough_0 : decode cX10_enough 0 = .ok (.aload_n 0, 1) := dc1_42 (by decide +kernel)
theorem dX10_enough_1 : decode cX10_enough 1 = .ok (.getfield 63, 3) := dcw_180 (by decide +kernel)
theorem dX10_enough_4 : decode cX10_enough 4 = .ok (.aload_n 0, 1) := dc1_42 (by decide +kernel)
theorem dX10_enough_5 : decode cX10_enough 5 = .ok (.getfield 35, 3) := dcw_180 (by decide +kernel)
theorem dX10_enough_8 : decode cX10_enough 8 = .ok (.invokevirtual 196, 3) := dcw_182 (by decide +kernel)
theorem dX10_enough_11 : decode cX10_enough 11 = .ok (.ifCond .ne 8, 3) := dcs_154 (n := 8) (by decide +kernel)
theorem dX10_enough_14 : decode cX10_enough 14 = .ok (.bipush (-2), 2) := dcb_16 (n := 254) (by decide +kernel)
theorem dX10_enough_16 : decode cX10_enough 16 = .ok (.goto 14, 3) := dcs_167 (n := 14) (by decide +kernel)
theorem dX10_enough_19 : decode cX10_enough 19 = .ok (.aload_n 0, 1) := dc1_42 (by decide +kernel)
theorem dX10_enough_20 : decode cX10_enough 20 = .ok (.getfield 63, 3) := dcw_180 (by decide +kernel)
theorem dX10_enough_23 : decode cX10_enough 23 = .ok (.aload_n 0, 1) := dc1_42 (by decide +kernel)
theorem dX10_enough_24 : decode cX10_enough 24 = .ok (.getfield 35, 3) := dcw_180 (by decide +kernel)
theorem dX10_enough_27 : decode cX10_enough 27 = .ok (.invokevirtual 212, 3) := dcw_182 (by decide +kernel)
theorem dX10_enough_30 : decode cX10_enough 30 = .ok (.ireturn, 1) := dc1_172 (by decide +kernel)
theorem ggX10_left_X5_hasGuess : GoodIn wsX10_left wsX5_hasGuess := gi_sub (fun w h => List.mem_cons_of_mem _ (List.mem_append_left _ (List.mem_append_left _ (List.mem_append_left _ (List.mem_append_left _ (List.mem_append_left _ (List.mem_append_right _ (List.mem_append_left _ h)))))))) gd_wsX5_hasGuess
set_option maxRecDepth 20000 in
theorem gX10_left_X5_hasGuess_n170 : GoodIn wsX10_left (wsX5_hasGuess) := ggX10_left_X5_hasGuess
theorem ggX10_left_X2_caseCount : GoodIn wsX10_left wsX2_caseCount := gi_sub (fun w h => List.mem_cons_of_mem _ (List.mem_append_left _ (List.mem_append_left _ (List.mem_append_left _ (List.mem_append_left _ (List.mem_append_left _ (List.mem_append_right _ (List.mem_append_right _ (List.mem_append_left _ h))))))))) gd_wsX2_caseCount
set_option maxRecDepth 20000 in
theorem gX10_left_X2_caseCount_n196 : GoodIn wsX10_left (wsX2_caseCount) := ggX10_left_X2_caseCount
theorem ggX10_left_X2_leftBehind : GoodIn wsX10_left wsX2_leftBehind := gi_sub (fun w h => List.mem_cons_of_mem _ (List.mem_append_left _ (List.mem_append_left _ (List.mem_append_left _ (List.mem_append_left _ (List.mem_append_left _ (List.mem_append_right _ (List.mem_append_right _ (List.mem_append_right _ h))))))))) gd_wsX2_leftBehind
set_option maxRecDepth 20000 in
theorem gX10_left_X2_leftBehind_n215 : GoodIn wsX10_left (wsX2_leftBehind) := ggX10_left_X2_leftBehind
theorem dX10_left_0 : decode cX10_left 0 = .ok (.aload_n 0, 1) := dc1_42 (by decide +kernel)
theorem dX10_left_1 : decode cX10_left 1 = .ok (.getfield 19, 3) := dcw_180 (by decide +kernel)
theorem dX10_left_4 : decode cX10_left 4 = .ok (.iload_n 1, 1) := dc1_27 (by decide +kernel)
theorem dX10_left_5 : decode cX10_left 5 = .ok (.invokevirtual 170, 3) := dcw_182 (by decide +kernel)
theorem dX10_left_8 : decode cX10_left 8 = .ok (.ifCond .ne 5, 3) := dcs_154 (n := 5) (by decide +kernel)
theorem dX10_left_11 : decode cX10_left 11 = .ok (.iconst (-1), 1) := dc1_2 (by decide +kernel)
theorem dX10_left_12 : decode cX10_left 12 = .ok (.ireturn, 1) := dc1_172 (by decide +kernel)
theorem dX10_left_13 : decode cX10_left 13 = .ok (.aload_n 0, 1) := dc1_42 (by decide +kernel)
theorem dX10_left_14 : decode cX10_left 14 = .ok (.getfield 63, 3) := dcw_180 (by decide +kernel)
theorem dX10_left_17 : decode cX10_left 17 = .ok (.aload_n 0, 1) := dc1_42 (by decide +kernel)
theorem dX10_left_18 : decode cX10_left 18 = .ok (.getfield 35, 3) := dcw_180 (by decide +kernel)
theorem dX10_left_21 : decode cX10_left 21 = .ok (.invokevirtual 196, 3) := dcw_182 (by decide +kernel)
theorem dX10_left_24 : decode cX10_left 24 = .ok (.ifCond .ne 8, 3) := dcs_154 (n := 8) (by decide +kernel)
theorem dX10_left_27 : decode cX10_left 27 = .ok (.bipush (-2), 2) := dcb_16 (n := 254) (by decide +kernel)
theorem dX10_left_29 : decode cX10_left 29 = .ok (.goto 15, 3) := dcs_167 (n := 15) (by decide +kernel)
theorem dX10_left_32 : decode cX10_left 32 = .ok (.aload_n 0, 1) := dc1_42 (by decide +kernel)
theorem dX10_left_33 : decode cX10_left 33 = .ok (.getfield 63, 3) := dcw_180 (by decide +kernel)
theorem dX10_left_36 : decode cX10_left 36 = .ok (.aload_n 0, 1) := dc1_42 (by decide +kernel)
theorem dX10_left_37 : decode cX10_left 37 = .ok (.getfield 35, 3) := dcw_180 (by decide +kernel)
theorem dX10_left_40 : decode cX10_left 40 = .ok (.iload_n 1, 1) := dc1_27 (by decide +kernel)
theorem dX10_left_41 : decode cX10_left 41 = .ok (.invokevirtual 215, 3) := dcw_182 (by decide +kernel)
theorem dX10_left_44 : decode cX10_left 44 = .ok (.ireturn, 1) := dc1_172 (by decide +kernel)
theorem ggX10_wisest_X2_caseCount : GoodIn wsX10_wisest wsX2_caseCount := gi_sub (fun w h => List.mem_cons_of_mem _ (List.mem_append_left _ (List.mem_append_left _ (List.mem_append_left _ (List.mem_append_left _ (List.mem_append_left _ (List.mem_append_right _ (List.mem_append_left _ h)))))))) gd_wsX2_caseCount
set_option maxRecDepth 20000 in
theorem gX10_wisest_X2_caseCount_n196 : GoodIn wsX10_wisest (wsX2_caseCount) := ggX10_wisest_X2_caseCount
theorem ggX10_wisest_X2_wisestGuess : GoodIn wsX10_wisest wsX2_wisestGuess := gi_sub (fun w h => List.mem_cons_of_mem _ (List.mem_append_left _ (List.mem_append_left _ (List.mem_append_left _ (List.mem_append_left _ (List.mem_append_left _ (List.mem_append_right _ (List.mem_append_right _ (List.mem_append_left _ h))))))))) gd_wsX2_wisestGuess
set_option maxRecDepth 20000 in
theorem gX10_wisest_X2_wisestGuess_n218 : GoodIn wsX10_wisest (wsX2_wisestGuess) := ggX10_wisest_X2_wisestGuess
theorem ggX10_wisest_X2_leftBehind : GoodIn wsX10_wisest wsX2_leftBehind := gi_sub (fun w h => List.mem_cons_of_mem _ (List.mem_append_left _ (List.mem_append_left _ (List.mem_append_left _ (List.mem_append_left _ (List.mem_append_left _ (List.mem_append_right _ (List.mem_append_right _ (List.mem_append_right _ h))))))))) gd_wsX2_leftBehind
set_option maxRecDepth 20000 in
theorem gX10_wisest_X2_leftBehind_n215 : GoodIn wsX10_wisest (wsX2_leftBehind) := ggX10_wisest_X2_leftBehind
theorem dX10_wisest_0 : decode cX10_wisest 0 = .ok (.iload_n 1, 1) := dc1_27 (by decide +kernel)
theorem dX10_wisest_1 : decode cX10_wisest 1 = .ok (.ifCond .eq 10, 3) := dcs_153 (n := 10) (by decide +kernel)
theorem dX10_wisest_4 : decode cX10_wisest 4 = .ok (.iload_n 1, 1) := dc1_27 (by decide +kernel)
theorem dX10_wisest_5 : decode cX10_wisest 5 = .ok (.iconst 1, 1) := dc1_4 (by decide +kernel)
theorem dX10_wisest_6 : decode cX10_wisest 6 = .ok (.if_icmp .eq 5, 3) := dcs_159 (n := 5) (by decide +kernel)
theorem dX10_wisest_9 : decode cX10_wisest 9 = .ok (.iconst (-1), 1) := dc1_2 (by decide +kernel)
theorem dX10_wisest_10 : decode cX10_wisest 10 = .ok (.ireturn, 1) := dc1_172 (by decide +kernel)
theorem dX10_wisest_11 : decode cX10_wisest 11 = .ok (.aload_n 0, 1) := dc1_42 (by decide +kernel)
theorem dX10_wisest_12 : decode cX10_wisest 12 = .ok (.getfield 63, 3) := dcw_180 (by decide +kernel)
theorem dX10_wisest_15 : decode cX10_wisest 15 = .ok (.aload_n 0, 1) := dc1_42 (by decide +kernel)
theorem dX10_wisest_16 : decode cX10_wisest 16 = .ok (.getfield 35, 3) := dcw_180 (by decide +kernel)
theorem dX10_wisest_19 : decode cX10_wisest 19 = .ok (.invokevirtual 196, 3) := dcw_182 (by decide +kernel)
theorem dX10_wisest_22 : decode cX10_wisest 22 = .ok (.ifCond .ne 6, 3) := dcs_154 (n := 6) (by decide +kernel)
theorem dX10_wisest_25 : decode cX10_wisest 25 = .ok (.bipush (-2), 2) := dcb_16 (n := 254) (by decide +kernel)
theorem dX10_wisest_27 : decode cX10_wisest 27 = .ok (.ireturn, 1) := dc1_172 (by decide +kernel)
theorem dX10_wisest_28 : decode cX10_wisest 28 = .ok (.aload_n 0, 1) := dc1_42 (by decide +kernel)
theorem dX10_wisest_29 : decode cX10_wisest 29 = .ok (.getfield 63, 3) := dcw_180 (by decide +kernel)
theorem dX10_wisest_32 : decode cX10_wisest 32 = .ok (.aload_n 0, 1) := dc1_42 (by decide +kernel)
theorem dX10_wisest_33 : decode cX10_wisest 33 = .ok (.getfield 35, 3) := dcw_180 (by decide +kernel)
theorem dX10_wisest_36 : decode cX10_wisest 36 = .ok (.invokevirtual 218, 3) := dcw_182 (by decide +kernel)
theorem dX10_wisest_39 : decode cX10_wisest 39 = .ok (.istore_n 2, 1) := dc1_61 (by decide +kernel)
theorem dX10_wisest_40 : decode cX10_wisest 40 = .ok (.iload_n 1, 1) := dc1_27 (by decide +kernel)
theorem dX10_wisest_41 : decode cX10_wisest 41 = .ok (.ifCond .ne 7, 3) := dcs_154 (n := 7) (by decide +kernel)
theorem dX10_wisest_44 : decode cX10_wisest 44 = .ok (.iload_n 2, 1) := dc1_28 (by decide +kernel)
theorem dX10_wisest_45 : decode cX10_wisest 45 = .ok (.goto 15, 3) := dcs_167 (n := 15) (by decide +kernel)
theorem dX10_wisest_48 : decode cX10_wisest 48 = .ok (.aload_n 0, 1) := dc1_42 (by decide +kernel)
theorem dX10_wisest_49 : decode cX10_wisest 49 = .ok (.getfield 63, 3) := dcw_180 (by decide +kernel)
theorem dX10_wisest_52 : decode cX10_wisest 52 = .ok (.aload_n 0, 1) := dc1_42 (by decide +kernel)
theorem dX10_wisest_53 : decode cX10_wisest 53 = .ok (.getfield 35, 3) := dcw_180 (by decide +kernel)
theorem dX10_wisest_56 : decode cX10_wisest 56 = .ok (.iload_n 2, 1) := dc1_28 (by decide +kernel)
theorem dX10_wisest_57 : decode cX10_wisest 57 = .ok (.invokevirtual 215, 3) := dcw_182 (by decide +kernel)
theorem dX10_wisest_60 : decode cX10_wisest 60 = .ok (.ireturn, 1) := dc1_172 (by decide +kernel)
theorem LX8_waveToAsk_27 : Cond.fieldLink RX8 27 "GuessFerry$Tellers" "sound" "LGuessFerry$Sound;" ∈ wsX8_waveToAsk := by decide +kernel
theorem LX8_waveToAsk_M83 : Cond.methodLink RX8 83 Lib.Math.max.name ∈ wsX8_waveToAsk := by decide +kernel
theorem LX8_waveToAsk_MCmax : Cond.code Lib.Math.max.name Lib.Math.max.code 2 (some .int) ∈ wsX8_waveToAsk := by decide +kernel
theorem LX8_waveToAsk_MI : Cond.initialized "java/lang/Math" ∈ wsX8_waveToAsk := by decide +kernel
theorem LX8_waveToAsk_MSmax : Cond.static Lib.Math.max.name ∈ wsX8_waveToAsk := by decide +kernel
theorem inX8_waveToAsk_X5 : ∀ w ∈ u_ws RX5 TX5 10, w ∈ wsX8_waveToAsk := by decide +kernel
theorem inX8_waveToAsk_X8 : ∀ w ∈ u_ws RX8 TX8 8, w ∈ wsX8_waveToAsk := by decide +kernel
set_option maxHeartbeats 4000000 in
set_option maxRecDepth 100000 in
theorem bkX8_waveToAsk_85 {l : Launch} {dC : Nat → ClassId} {dI : Nat → Nat → Nat} {cB cI cJ cZ cS : ClassId} {a : Nat → Nat} {as : List Value} {r : Int32} {s' : KS} {k8 : KS → Int32 → Int32 → Int32 → Int32 → Option (Int32 × KS)} (hk8 : ∀ (s : KS) (x1 : Int32) (x2 : Int32) (x3 : Int32) (x4 : Int32), k8 s x1 x2 x3 x4 = some (r, s') → BlkI l yX8_waveToAsk wsX8_waveToAsk ({ frames := 2, cells := 0, slots := 0, locals := 50 }) cX8_waveToAsk 7 (some .int) (dC, dI) (tysA cB cI cJ cZ cS) as 8 (wK cB cI cJ cZ cS a s) [(0, .ref (a 41)), (1, .int x1), (2, .int x2), (3, .int x3), (4, .int x4)] [] (fun x u => x = r ∧ u = (wK cB cI cJ cZ cS a s'))) (s : KS) (x1 : Int32) (x2 : Int32) (x3 : Int32) (x4 : Int32) (hB : kX8_waveToAsk_85 k8 s x1 x2 x3 x4 = some (r, s')) : BlkI l yX8_waveToAsk wsX8_waveToAsk ({ frames := 2, cells := 0, slots := 0, locals := 50 }) cX8_waveToAsk 7 (some .int) (dC, dI) (tysA cB cI cJ cZ cS) as 85 (wK cB cI cJ cZ cS a s) [(0, .ref (a 41)), (1, .int x1), (2, .int x2), (3, .int x3), (4, .int x4)] [] (fun x u => x = r ∧ u = (wK cB cI cJ cZ cS a s')) := by
  intro p e s0 m below meth c A E H locs ls hP hD hS hl
  obtain ⟨C, hr, hlocks, hA, hK, hN⟩ := id E
  obtain ⟨hx, hb, hml, hown, hts⟩ := id C
  unfold kX8_waveToAsk_85 at hB
  refine lv_iinc (v := (x4 + 1)) (lv' := [(4, .int (x4 + 1)), (0, .ref (a 41)), (1, .int x1), (2, .int x2), (3, .int x3)]) hx hb dX8_waveToAsk_85 hl (k := 4) rfl (rfl) (by decide) rfl (fun ls hl => ?_)
  refine lv_goto (tgt := 8) hx hb dX8_waveToAsk_88 (by decide) ?_
  exact hk8 _ _ _ _ _ hB p e s0 m below meth c A E H locs ls hP hD hS (lv_sub hl [1, 2, 3, 4, 0] rfl)
set_option maxHeartbeats 4000000 in
set_option maxRecDepth 100000 in
theorem bkX8_waveToAsk_79 {l : Launch} {dC : Nat → ClassId} {dI : Nat → Nat → Nat} {cB cI cJ cZ cS : ClassId} {a : Nat → Nat} {as : List Value} {r : Int32} {s' : KS} {k8 : KS → Int32 → Int32 → Int32 → Int32 → Option (Int32 × KS)} (hk8 : ∀ (s : KS) (x1 : Int32) (x2 : Int32) (x3 : Int32) (x4 : Int32), k8 s x1 x2 x3 x4 = some (r, s') → BlkI l yX8_waveToAsk wsX8_waveToAsk ({ frames := 2, cells := 0, slots := 0, locals := 50 }) cX8_waveToAsk 7 (some .int) (dC, dI) (tysA cB cI cJ cZ cS) as 8 (wK cB cI cJ cZ cS a s) [(0, .ref (a 41)), (1, .int x1), (2, .int x2), (3, .int x3), (4, .int x4)] [] (fun x u => x = r ∧ u = (wK cB cI cJ cZ cS a s'))) (s : KS) (x1 : Int32) (x4 : Int32) (x5 : Int32) (hB : kX8_waveToAsk_79 k8 s x1 x4 x5 = some (r, s')) : BlkI l yX8_waveToAsk wsX8_waveToAsk ({ frames := 2, cells := 0, slots := 0, locals := 50 }) cX8_waveToAsk 7 (some .int) (dC, dI) (tysA cB cI cJ cZ cS) as 79 (wK cB cI cJ cZ cS a s) [(0, .ref (a 41)), (1, .int x1), (4, .int x4), (5, .int x5)] [] (fun x u => x = r ∧ u = (wK cB cI cJ cZ cS a s')) := by
  intro p e s0 m below meth c A E H locs ls hP hD hS hl
  obtain ⟨C, hr, hlocks, hA, hK, hN⟩ := id E
  obtain ⟨hx, hb, hml, hown, hts⟩ := id C
  unfold kX8_waveToAsk_79 at hB
  refine lv_iload hx hb dX8_waveToAsk_79 (lv_at hl 2 rfl) ?_
  refine lv_istore_n (lv' := [(2, .int x4), (0, .ref (a 41)), (1, .int x1), (4, .int x4), (5, .int x5)]) hx hb dX8_waveToAsk_81 rfl hl (by decide) rfl (fun ls hl => ?_)
  refine lv_iload hx hb dX8_waveToAsk_82 (lv_at hl 4 rfl) ?_
  refine lv_istore_n (lv' := [(3, .int x5), (2, .int x4), (0, .ref (a 41)), (1, .int x1), (4, .int x4), (5, .int x5)]) hx hb dX8_waveToAsk_84 rfl hl (by decide) rfl (fun ls hl => ?_)
  exact bkX8_waveToAsk_85 (hk8) _ _ _ _ _ hB p e s0 m below meth c A E H locs ls hP hD hS (lv_sub hl [2, 3, 1, 0, 4] rfl)
set_option maxHeartbeats 4000000 in
set_option maxRecDepth 100000 in
theorem bkX8_waveToAsk_33 {l : Launch} {dC : Nat → ClassId} {dI : Nat → Nat → Nat} {cB cI cJ cZ cS : ClassId} {a : Nat → Nat} {as : List Value} {r : Int32} {s' : KS} {k8 : KS → Int32 → Int32 → Int32 → Int32 → Option (Int32 × KS)} {k33 : KS → Int32 → Int32 → Int32 → Int32 → Int32 → Int32 → Option (Int32 × KS)} (hk8 : ∀ (s : KS) (x1 : Int32) (x2 : Int32) (x3 : Int32) (x4 : Int32), k8 s x1 x2 x3 x4 = some (r, s') → BlkI l yX8_waveToAsk wsX8_waveToAsk ({ frames := 2, cells := 0, slots := 0, locals := 50 }) cX8_waveToAsk 7 (some .int) (dC, dI) (tysA cB cI cJ cZ cS) as 8 (wK cB cI cJ cZ cS a s) [(0, .ref (a 41)), (1, .int x1), (2, .int x2), (3, .int x3), (4, .int x4)] [] (fun x u => x = r ∧ u = (wK cB cI cJ cZ cS a s'))) (hk33 : ∀ (s : KS) (x1 : Int32) (x2 : Int32) (x3 : Int32) (x4 : Int32) (x5 : Int32) (x6 : Int32), k33 s x1 x2 x3 x4 x5 x6 = some (r, s') → BlkI l yX8_waveToAsk wsX8_waveToAsk ({ frames := 2, cells := 0, slots := 0, locals := 50 }) cX8_waveToAsk 7 (some .int) (dC, dI) (tysA cB cI cJ cZ cS) as 33 (wK cB cI cJ cZ cS a s) [(0, .ref (a 41)), (1, .int x1), (2, .int x2), (3, .int x3), (4, .int x4), (5, .int x5), (6, .int x6)] [] (fun x u => x = r ∧ u = (wK cB cI cJ cZ cS a s'))) (s : KS) (x1 : Int32) (x2 : Int32) (x3 : Int32) (x4 : Int32) (x5 : Int32) (x6 : Int32) (hB : kX8_waveToAsk_33 k8 k33 s x1 x2 x3 x4 x5 x6 = some (r, s')) : BlkI l yX8_waveToAsk wsX8_waveToAsk ({ frames := 2, cells := 0, slots := 0, locals := 50 }) cX8_waveToAsk 7 (some .int) (dC, dI) (tysA cB cI cJ cZ cS) as 33 (wK cB cI cJ cZ cS a s) [(0, .ref (a 41)), (1, .int x1), (2, .int x2), (3, .int x3), (4, .int x4), (5, .int x5), (6, .int x6)] [] (fun x u => x = r ∧ u = (wK cB cI cJ cZ cS a s')) := by
  intro p e s0 m below meth c A E H locs ls hP hD hS hl
  obtain ⟨C, hr, hlocks, hA, hK, hN⟩ := id E
  obtain ⟨hx, hb, hml, hown, hts⟩ := id C
  unfold kX8_waveToAsk_33 at hB
  refine lv_iload hx hb dX8_waveToAsk_33 (lv_at hl 6 rfl) ?_
  refine lv_bipush (v := 6) hx hb dX8_waveToAsk_35 (by decide) ?_
  refine lv_icmp_ge (tgt := 62) hx hb dX8_waveToAsk_37 (by decide) (fun c1 => ?_) (fun c1 => ?_)
  · have hB := if_p hB c1
    refine lv_iload hx hb dX8_waveToAsk_62 (lv_at hl 5 rfl) ?_
    refine lv_if_le (tgt := 85) hx hb dX8_waveToAsk_64 (by decide) (fun c2 => ?_) (fun c2 => ?_)
    · have hB := if_p hB c2
      exact bkX8_waveToAsk_85 (hk8) _ _ _ _ _ hB p e s0 m below meth c A E H locs ls hP hD hS (lv_sub hl [0, 1, 2, 3, 4] rfl)
    · have hB := if_n hB c2
      refine lv_iload_n hx hb dX8_waveToAsk_67 rfl (lv_at hl 2 rfl) ?_
      refine lv_bipush (v := (-2)) hx hb dX8_waveToAsk_68 (by decide) ?_
      refine lv_icmp_eq (tgt := 79) hx hb dX8_waveToAsk_70 (by decide) (fun c3 => ?_) (fun c3 => ?_)
      · have hB := if_p hB c3
        exact bkX8_waveToAsk_79 (hk8) _ _ _ _ hB p e s0 m below meth c A E H locs ls hP hD hS (lv_sub hl [0, 1, 4, 5] rfl)
      · have hB := if_n hB c3
        refine lv_iload hx hb dX8_waveToAsk_73 (lv_at hl 5 rfl) ?_
        refine lv_iload_n hx hb dX8_waveToAsk_75 rfl (lv_at hl 3 rfl) ?_
        refine lv_icmp_ge (tgt := 85) hx hb dX8_waveToAsk_76 (by decide) (fun c4 => ?_) (fun c4 => ?_)
        · have hB := if_p hB c4
          exact bkX8_waveToAsk_85 (hk8) _ _ _ _ _ hB p e s0 m below meth c A E H locs ls hP hD hS (lv_sub hl [0, 1, 2, 3, 4] rfl)
        · have hB := if_n hB c4
          exact bkX8_waveToAsk_79 (hk8) _ _ _ _ hB p e s0 m below meth c A E H locs ls hP hD hS (lv_sub hl [0, 1, 4, 5] rfl)
  · have hB := if_n hB c1
    refine lv_iload hx hb dX8_waveToAsk_40 (lv_at hl 5 rfl) ?_
    refine lv_aload_n hx hb dX8_waveToAsk_42 rfl (lv_at hl 0 rfl) ?_
    refine lv_iload hx hb dX8_waveToAsk_43 (lv_at hl 4 rfl) ?_
    refine lv_iload hx hb dX8_waveToAsk_45 (lv_at hl 6 rfl) ?_
    refine lv_iload_n hx hb dX8_waveToAsk_47 rfl (lv_at hl 1 rfl) ?_
    obtain ⟨q_, s5, hc, hB⟩ := bindI_inv hB
    refine q_goiF (va_runV (As := [.int x4, .int x6, .int x1]) (rest := [.int x5]) C (ckX8_fittingWith hc _) (cwV 3 hts gX8_waveToAsk_X8_fittingWith rfl rfl rfl (by decide +kernel) ⟨Nat.le_of_ble_eq_true rfl, Nat.le_of_ble_eq_true rfl⟩) (q_preV hK hP (ci := 8) (q0 := 41) rfl rfl rfl (q_preF hN hK hP hD)) rfl rfl hl.1 rfl (lv_room (Nat.le_of_ble_eq_true rfl)) dX8_waveToAsk_48 ⟨Nat.le_of_ble_eq_true rfl, Nat.le_of_ble_eq_true rfl⟩) hD hS hA (fun r6 w1 H locs hw hP hD hS => ?_)
    obtain ⟨hq_, hw⟩ := hw; subst hw; subst hq_
    refine va_mmax hx hb (hml.trans hl.1.symm) hown (hts _ LX8_waveToAsk_M83) (hts _ LX8_waveToAsk_MSmax) (hts _ LX8_waveToAsk_MI) (hts _ LX8_waveToAsk_MCmax) (Nat.le_of_ble_eq_true rfl) (Nat.le_of_ble_eq_true rfl) (Nat.zero_le _) (Nat.zero_le _) dX8_waveToAsk_51 ?_
    refine q_top (y := (mmax x5 r6)) rfl ?_
    refine lv_istore (lv' := [(5, .int (mmax x5 r6)), (0, .ref (a 41)), (1, .int x1), (2, .int x2), (3, .int x3), (4, .int x4), (6, .int x6)]) hx hb dX8_waveToAsk_54 hl (by decide) rfl (fun ls hl => ?_)
    refine lv_iinc (v := (x6 + 1)) (lv' := [(6, .int (x6 + 1)), (5, .int (mmax x5 r6)), (0, .ref (a 41)), (1, .int x1), (2, .int x2), (3, .int x3), (4, .int x4)]) hx hb dX8_waveToAsk_56 hl (k := 6) rfl (rfl) (by decide) rfl (fun ls hl => ?_)
    refine lv_goto (tgt := 33) hx hb dX8_waveToAsk_59 (by decide) ?_
    exact hk33 _ _ _ _ _ _ _ hB p e s0 m below meth c A E H locs ls hP hD hS (lv_sub hl [2, 3, 4, 5, 6, 1, 0] rfl)
theorem bkX8_waveToAsk_33L {l : Launch} {dC : Nat → ClassId} {dI : Nat → Nat → Nat} {cB cI cJ cZ cS : ClassId} {a : Nat → Nat} {as : List Value} {r : Int32} {s' : KS} {k8 : KS → Int32 → Int32 → Int32 → Int32 → Option (Int32 × KS)} (hk8 : ∀ (s : KS) (x1 : Int32) (x2 : Int32) (x3 : Int32) (x4 : Int32), k8 s x1 x2 x3 x4 = some (r, s') → BlkI l yX8_waveToAsk wsX8_waveToAsk ({ frames := 2, cells := 0, slots := 0, locals := 50 }) cX8_waveToAsk 7 (some .int) (dC, dI) (tysA cB cI cJ cZ cS) as 8 (wK cB cI cJ cZ cS a s) [(0, .ref (a 41)), (1, .int x1), (2, .int x2), (3, .int x3), (4, .int x4)] [] (fun x u => x = r ∧ u = (wK cB cI cJ cZ cS a s'))) : ∀ (n : Nat) (s : KS) (x1 : Int32) (x2 : Int32) (x3 : Int32) (x4 : Int32) (x5 : Int32) (x6 : Int32), kX8_waveToAsk_33L k8 n s x1 x2 x3 x4 x5 x6 = some (r, s') → BlkI l yX8_waveToAsk wsX8_waveToAsk ({ frames := 2, cells := 0, slots := 0, locals := 50 }) cX8_waveToAsk 7 (some .int) (dC, dI) (tysA cB cI cJ cZ cS) as 33 (wK cB cI cJ cZ cS a s) [(0, .ref (a 41)), (1, .int x1), (2, .int x2), (3, .int x3), (4, .int x4), (5, .int x5), (6, .int x6)] [] (fun x u => x = r ∧ u = (wK cB cI cJ cZ cS a s')) := by
  intro n
  induction n with
  | zero => intro s x1 x2 x3 x4 x5 x6 hB; exact none_ne hB
  | succ n ih => intro s x1 x2 x3 x4 x5 x6 hB; exact bkX8_waveToAsk_33 hk8 ih _ _ _ _ _ _ _ hB
set_option maxHeartbeats 4000000 in
set_option maxRecDepth 100000 in
theorem bkX8_waveToAsk_8 {l : Launch} {dC : Nat → ClassId} {dI : Nat → Nat → Nat} {cB cI cJ cZ cS : ClassId} {a : Nat → Nat} {as : List Value} {r : Int32} {s' : KS} {k8 : KS → Int32 → Int32 → Int32 → Int32 → Option (Int32 × KS)} (hk8 : ∀ (s : KS) (x1 : Int32) (x2 : Int32) (x3 : Int32) (x4 : Int32), k8 s x1 x2 x3 x4 = some (r, s') → BlkI l yX8_waveToAsk wsX8_waveToAsk ({ frames := 2, cells := 0, slots := 0, locals := 50 }) cX8_waveToAsk 7 (some .int) (dC, dI) (tysA cB cI cJ cZ cS) as 8 (wK cB cI cJ cZ cS a s) [(0, .ref (a 41)), (1, .int x1), (2, .int x2), (3, .int x3), (4, .int x4)] [] (fun x u => x = r ∧ u = (wK cB cI cJ cZ cS a s'))) (s : KS) (x1 : Int32) (x2 : Int32) (x3 : Int32) (x4 : Int32) (hB : kX8_waveToAsk_8 k8 s x1 x2 x3 x4 = some (r, s')) : BlkI l yX8_waveToAsk wsX8_waveToAsk ({ frames := 2, cells := 0, slots := 0, locals := 50 }) cX8_waveToAsk 7 (some .int) (dC, dI) (tysA cB cI cJ cZ cS) as 8 (wK cB cI cJ cZ cS a s) [(0, .ref (a 41)), (1, .int x1), (2, .int x2), (3, .int x3), (4, .int x4)] [] (fun x u => x = r ∧ u = (wK cB cI cJ cZ cS a s')) := by
  intro p e s0 m below meth c A E H locs ls hP hD hS hl
  obtain ⟨C, hr, hlocks, hA, hK, hN⟩ := id E
  obtain ⟨hx, hb, hml, hown, hts⟩ := id C
  unfold kX8_waveToAsk_8 at hB
  refine lv_iload hx hb dX8_waveToAsk_8 (lv_at hl 4 rfl) ?_
  refine lv_aload_n hx hb dX8_waveToAsk_10 rfl (lv_at hl 0 rfl) ?_
  refine q_get (v := .ref (a 2)) C inX8_waveToAsk_X8 hK hP 41 rfl rfl 0 (by decide) rfl LX8_waveToAsk_27 rfl dX8_waveToAsk_11 ?_
  refine q_getN (v := .int (s.v 1)) C hN inX8_waveToAsk_X5 hK hP 2 rfl rfl 6 (by decide) rfl nwF_X8_39 rfl dX8_waveToAsk_14 ?_
  refine lv_icmp_ge (tgt := 91) hx hb dX8_waveToAsk_17 (by decide) (fun c1 => ?_) (fun c1 => ?_)
  · have hB := if_p hB c1
    refine lv_iload_n hx hb dX8_waveToAsk_91 rfl (lv_at hl 2 rfl) ?_
    exact q_iret C hr hlocks hK hP hD hS (Nat.le_of_ble_eq_true rfl) (Nat.le_of_ble_eq_true rfl) dX8_waveToAsk_92 (by cases hB; exact ⟨rfl, rfl⟩)
  · have hB := if_n hB c1
    refine lv_aload_n hx hb dX8_waveToAsk_20 rfl (lv_at hl 0 rfl) ?_
    refine lv_iload hx hb dX8_waveToAsk_21 (lv_at hl 4 rfl) ?_
    refine lv_iconst (v := 0) hx hb dX8_waveToAsk_23 (by decide) ?_
    obtain ⟨s2, hc, hB⟩ := bindP_inv hB
    refine q_govF (va_runV (As := [.int x4, .int 0]) (rest := []) C (ckX8_sortByLies hc _) (cwV 2 hts gX8_waveToAsk_X8_sortByLies rfl rfl rfl (by decide +kernel) ⟨Nat.le_of_ble_eq_true rfl, Nat.le_of_ble_eq_true rfl⟩) (q_preV hK hP (ci := 8) (q0 := 41) rfl rfl rfl (q_preF hN hK hP hD)) rfl rfl hl.1 rfl (lv_room (Nat.le_of_ble_eq_true rfl)) dX8_waveToAsk_24 ⟨Nat.le_of_ble_eq_true rfl, Nat.le_of_ble_eq_true rfl⟩) hD hS hA (fun w1 H locs hw hP hD hS => ?_)
    subst hw
    refine lv_iconst (v := 0) hx hb dX8_waveToAsk_27 (by decide) ?_
    refine lv_istore (lv' := [(5, .int 0), (0, .ref (a 41)), (1, .int x1), (2, .int x2), (3, .int x3), (4, .int x4)]) hx hb dX8_waveToAsk_28 hl (by decide) rfl (fun ls hl => ?_)
    refine lv_iconst (v := 0) hx hb dX8_waveToAsk_30 (by decide) ?_
    refine lv_istore (lv' := [(6, .int 0), (5, .int 0), (0, .ref (a 41)), (1, .int x1), (2, .int x2), (3, .int x3), (4, .int x4)]) hx hb dX8_waveToAsk_31 hl (by decide) rfl (fun ls hl => ?_)
    exact bkX8_waveToAsk_33L (hk8) fu _ _ _ _ _ _ _ hB p e s0 m below meth c A E H locs ls hP hD hS (lv_sub hl [2, 3, 4, 5, 6, 1, 0] rfl)
theorem bkX8_waveToAsk_8L {l : Launch} {dC : Nat → ClassId} {dI : Nat → Nat → Nat} {cB cI cJ cZ cS : ClassId} {a : Nat → Nat} {as : List Value} {r : Int32} {s' : KS} : ∀ (n : Nat) (s : KS) (x1 : Int32) (x2 : Int32) (x3 : Int32) (x4 : Int32), kX8_waveToAsk_8L n s x1 x2 x3 x4 = some (r, s') → BlkI l yX8_waveToAsk wsX8_waveToAsk ({ frames := 2, cells := 0, slots := 0, locals := 50 }) cX8_waveToAsk 7 (some .int) (dC, dI) (tysA cB cI cJ cZ cS) as 8 (wK cB cI cJ cZ cS a s) [(0, .ref (a 41)), (1, .int x1), (2, .int x2), (3, .int x3), (4, .int x4)] [] (fun x u => x = r ∧ u = (wK cB cI cJ cZ cS a s')) := by
  intro n
  induction n with
  | zero => intro s x1 x2 x3 x4 hB; exact none_ne hB
  | succ n ih => intro s x1 x2 x3 x4 hB; exact bkX8_waveToAsk_8 ih _ _ _ _ _ hB
set_option maxHeartbeats 4000000 in
set_option maxRecDepth 100000 in
theorem bkX8_waveToAsk {l : Launch} {dC : Nat → ClassId} {dI : Nat → Nat → Nat} {cB cI cJ cZ cS : ClassId} {a : Nat → Nat} {as : List Value} {r : Int32} {s' : KS} (s : KS) (x1 : Int32) (hB : kX8_waveToAsk s x1 = some (r, s')) : BlkI l yX8_waveToAsk wsX8_waveToAsk ({ frames := 2, cells := 0, slots := 0, locals := 50 }) cX8_waveToAsk 7 (some .int) (dC, dI) (tysA cB cI cJ cZ cS) as 0 (wK cB cI cJ cZ cS a s) [(0, .ref (a 41)), (1, .int x1)] [] (fun x u => x = r ∧ u = (wK cB cI cJ cZ cS a s')) := by
  intro p e s0 m below meth c A E H locs ls hP hD hS hl
  obtain ⟨C, hr, hlocks, hA, hK, hN⟩ := id E
  obtain ⟨hx, hb, hml, hown, hts⟩ := id C
  unfold kX8_waveToAsk at hB
  refine lv_bipush (v := (-2)) hx hb dX8_waveToAsk_0 (by decide) ?_
  refine lv_istore_n (lv' := [(2, .int (-2)), (0, .ref (a 41)), (1, .int x1)]) hx hb dX8_waveToAsk_2 rfl hl (by decide) rfl (fun ls hl => ?_)
  refine lv_iconst (v := 0) hx hb dX8_waveToAsk_3 (by decide) ?_
  refine lv_istore_n (lv' := [(3, .int 0), (2, .int (-2)), (0, .ref (a 41)), (1, .int x1)]) hx hb dX8_waveToAsk_4 rfl hl (by decide) rfl (fun ls hl => ?_)
  refine lv_iconst (v := 0) hx hb dX8_waveToAsk_5 (by decide) ?_
  refine lv_istore (lv' := [(4, .int 0), (3, .int 0), (2, .int (-2)), (0, .ref (a 41)), (1, .int x1)]) hx hb dX8_waveToAsk_6 hl (by decide) rfl (fun ls hl => ?_)
  exact bkX8_waveToAsk_8L fu _ _ _ _ _ hB p e s0 m below meth c A E H locs ls hP hD hS (lv_sub hl [3, 4, 2, 1, 0] rfl)
theorem ckX8_waveToAsk {l : Launch} {dC : Nat → ClassId} {dI : Nat → Nat → Nat} {cB cI cJ cZ cS : ClassId} {a : Nat → Nat} {r : Int32} {s' : KS} {s : KS} {x1 : Int32} (hB : kX8_waveToAsk s x1 = some (r, s')) : CI l yX8_waveToAsk wsX8_waveToAsk ({ frames := 2, cells := 0, slots := 0, locals := 50 }) (dC, dI) (tysA cB cI cJ cZ cS) (wK cB cI cJ cZ cS a s) [.ref (a 41), .int x1] (fun x u => x = r ∧ u = (wK cB cI cJ cZ cS a s')) :=
  CI_of (cc := cX8_waveToAsk) (maxL := 7) (ret := (some .int)) (by decide) rfl (Nat.le_of_ble_eq_true rfl) (bkX8_waveToAsk _ _ hB)
theorem LX10_odds_19 : Cond.fieldLink RX10 19 "GuessFerry" "sound" "LGuessFerry$Sound;" ∈ wsX10_odds := by decide +kernel
theorem LX10_odds_E_X5_hasWave : Cond.selects RX5 yX5_hasWave yX5_hasWave ∈ wsX10_odds := by decide +kernel
theorem LX10_odds_E_X5_oddsAt : Cond.selects RX5 yX5_oddsAt yX5_oddsAt ∈ wsX10_odds := by decide +kernel
theorem LX10_odds_I_X5 : Cond.initialized RX5 ∈ wsX10_odds := by decide +kernel
theorem LX10_odds_N_X5_hasWave : Cond.instanceMethod yX5_hasWave ∈ wsX10_odds := by decide +kernel
theorem LX10_odds_N_X5_oddsAt : Cond.instanceMethod yX5_oddsAt ∈ wsX10_odds := by decide +kernel
theorem inX10_odds_X10 : ∀ w ∈ u_ws RX10 TX10 9, w ∈ wsX10_odds := by decide +kernel
set_option maxHeartbeats 4000000 in
set_option maxRecDepth 100000 in
theorem bkX10_odds {l : Launch} {dC : Nat → ClassId} {dI : Nat → Nat → Nat} {cB cI cJ cZ cS : ClassId} {a b b2 c0 : Nat → Nat} {rg sl : Nat → Option Nat} {as : List Value} {r : Int32} {s' : XS} (s : XS) (x1 : Int32) (x2 : Int32) (hB : kX10_odds s x1 x2 = some (r, s')) : BlkI l yX10_odds wsX10_odds ({ frames := 1, cells := 0, slots := 0, locals := 22 }) cX10_odds 3 (some .int) (dC, dI) (tysA cB cI cJ cZ cS) as 0 (wX cB cI cJ cZ cS a b b2 c0 rg sl s) [(0, .ref (c0 0)), (1, .int x1), (2, .int x2)] [] (fun x u => x = r ∧ u = (wX cB cI cJ cZ cS a b b2 c0 rg sl s')) := by
  intro p e s0 m below meth c A E H locs ls hP hD hS hl
  obtain ⟨C, hr, hlocks, hA, hK, hN⟩ := id E
  obtain ⟨hx, hb, hml, hown, hts⟩ := id C
  unfold kX10_odds at hB
  refine lv_aload_n hx hb dX10_odds_0 rfl (lv_at hl 0 rfl) ?_
  refine q_get (v := .ref (a 2)) C inX10_odds_X10 hK hP 0 rfl rfl 1 (by decide) rfl LX10_odds_19 rfl dX10_odds_1 ?_
  refine lv_iload_n hx hb dX10_odds_4 rfl (lv_at hl 1 rfl) ?_
  obtain ⟨q_, s1, hc, hB⟩ := bindI_inv hB
  refine q_goi (wr := ((wG cZ cS a b b2 c0 rg sl s.g) ++ (wD cI b2 s.t) ++ (wD cI b s.n))) (va_runVN (As := [.int x1]) (rest := []) C (ckX5_hasWave hc _) ⟨va_cnB 1 hts gX10_odds_X5_hasWave_n108 rfl rfl rfl (hN _ nwM_X10_108 rfl) (hts _ LX10_odds_I_X5) (by decide +kernel) ⟨Nat.le_of_ble_eq_true rfl, Nat.le_of_ble_eq_true rfl⟩, hts _ LX10_odds_N_X5_hasWave, hts _ LX10_odds_E_X5_hasWave⟩ (q_preV hK hP (ci := 5) (q0 := 19) rfl rfl rfl (q_pre hN hK hP hD [17, 18, 19, 20, 21, 22, 23, 24, 25, 26, 27, 28, 29, 30, 31, 32, 33, 34, 35, 36, 37, 38, 39, 40, 41, 42, 43, 44, 45, 46, 47, 48, 49, 50, 51, 52, 53, 54, 55, 56, 57, 58, 59, 60, 61, 62, 63] rfl (by decide))) rfl rfl hl.1 rfl (lv_room (Nat.le_of_ble_eq_true rfl)) dX10_odds_5 ⟨Nat.le_of_ble_eq_true rfl, Nat.le_of_ble_eq_true rfl⟩) hP hD hS hA [17, 18, 19, 20, 21, 22, 23, 24, 25, 26, 27, 28, 29, 30, 31, 32, 33, 34, 35, 36, 37, 38, 39, 40, 41, 42, 43, 44, 45, 46, 47, 48, 49, 50, 51, 52, 53, 54, 55, 56, 57, 58, 59, 60, 61, 62, 63] [0, 1, 2, 3, 4, 5, 6, 7, 8, 9, 10, 11, 12, 13, 14, 15, 16] rfl rfl (by decide) (by decide) (fun r2 w1 H locs hw hP hD hS => ?_)
  obtain ⟨hq_, hw⟩ := hw; subst hw; subst hq_
  obtain ⟨s3, hs4, hB⟩ := letS_inv hB
  have hP : va_P (dC, dI) vwCl (wX cB cI cJ cZ cS a b b2 c0 rg sl s3) H := by subst hs4; exact hP
  have hD : va_D A (wX cB cI cJ cZ cS a b b2 c0 rg sl s3) := by subst hs4; exact hD
  refine lv_if_eq (tgt := 30) hx hb dX10_odds_8 (by decide) (fun c5 => ?_) (fun c5 => ?_)
  · have hB := if_p hB c5
    refine lv_iconst (v := (-1)) hx hb dX10_odds_30 (by decide) ?_
    exact q_iret C hr hlocks hK hP hD hS (Nat.le_of_ble_eq_true rfl) (Nat.le_of_ble_eq_true rfl) dX10_odds_31 (by cases hB; exact ⟨rfl, rfl⟩)
  · have hB := if_n hB c5
    refine lv_iload_n hx hb dX10_odds_11 rfl (lv_at hl 2 rfl) ?_
    obtain ⟨q_, hc, hB⟩ := bindP_inv hB
    refine q_goi0 (va_runS (As := [.int x2]) (rest := []) C (ckX10_isThing hc _) (va_cwS 1 hts gX10_odds_X10_isThing rfl rfl rfl (by decide +kernel) ⟨Nat.le_of_ble_eq_true rfl, Nat.le_of_ble_eq_true rfl⟩) (q_pre0 hN hK) rfl rfl hl.1 rfl (lv_room (Nat.le_of_ble_eq_true rfl)) dX10_odds_12 ⟨Nat.le_of_ble_eq_true rfl, Nat.le_of_ble_eq_true rfl⟩) hP hD hS hA (fun r6 w1 H locs hw hP hS => ?_)
    subst hw
    refine lv_if_eq (tgt := 30) hx hb dX10_odds_15 (by decide) (fun c7 => ?_) (fun c7 => ?_)
    · have hB := if_p hB c7
      refine lv_iconst (v := (-1)) hx hb dX10_odds_30 (by decide) ?_
      exact q_iret C hr hlocks hK hP hD hS (Nat.le_of_ble_eq_true rfl) (Nat.le_of_ble_eq_true rfl) dX10_odds_31 (by cases hB; exact ⟨rfl, rfl⟩)
    · have hB := if_n hB c7
      refine lv_aload_n hx hb dX10_odds_18 rfl (lv_at hl 0 rfl) ?_
      refine q_get (v := .ref (a 2)) C inX10_odds_X10 hK hP 0 rfl rfl 1 (by decide) rfl LX10_odds_19 rfl dX10_odds_19 ?_
      refine lv_iload_n hx hb dX10_odds_22 rfl (lv_at hl 1 rfl) ?_
      refine lv_iload_n hx hb dX10_odds_23 rfl (lv_at hl 2 rfl) ?_
      obtain ⟨q_, s8, hc, hB⟩ := bindI_inv hB
      refine q_goi (wr := ((wG cZ cS a b b2 c0 rg sl s3.g) ++ (wD cI b2 s3.t) ++ (wD cI b s3.n))) (va_runVN (As := [.int x1, .int x2]) (rest := []) C (ckX5_oddsAt hc _) ⟨va_cnB 2 hts gX10_odds_X5_oddsAt_n134 rfl rfl rfl (hN _ nwM_X10_134 rfl) (hts _ LX10_odds_I_X5) (by decide +kernel) ⟨Nat.le_of_ble_eq_true rfl, Nat.le_of_ble_eq_true rfl⟩, hts _ LX10_odds_N_X5_oddsAt, hts _ LX10_odds_E_X5_oddsAt⟩ (q_preV hK hP (ci := 5) (q0 := 19) rfl rfl rfl (q_pre hN hK hP hD [17, 18, 19, 20, 21, 22, 23, 24, 25, 26, 27, 28, 29, 30, 31, 32, 33, 34, 35, 36, 37, 38, 39, 40, 41, 42, 43, 44, 45, 46, 47, 48, 49, 50, 51, 52, 53, 54, 55, 56, 57, 58, 59, 60, 61, 62, 63] rfl (by decide))) rfl rfl hl.1 rfl (lv_room (Nat.le_of_ble_eq_true rfl)) dX10_odds_24 ⟨Nat.le_of_ble_eq_true rfl, Nat.le_of_ble_eq_true rfl⟩) hP hD hS hA [17, 18, 19, 20, 21, 22, 23, 24, 25, 26, 27, 28, 29, 30, 31, 32, 33, 34, 35, 36, 37, 38, 39, 40, 41, 42, 43, 44, 45, 46, 47, 48, 49, 50, 51, 52, 53, 54, 55, 56, 57, 58, 59, 60, 61, 62, 63] [0, 1, 2, 3, 4, 5, 6, 7, 8, 9, 10, 11, 12, 13, 14, 15, 16] rfl rfl (by decide) (by decide) (fun r9 w1 H locs hw hP hD hS => ?_)
      obtain ⟨hq_, hw⟩ := hw; subst hw; subst hq_
      obtain ⟨s10, hs11, hB⟩ := letS_inv hB
      have hP : va_P (dC, dI) vwCl (wX cB cI cJ cZ cS a b b2 c0 rg sl s10) H := by subst hs11; exact hP
      have hD : va_D A (wX cB cI cJ cZ cS a b b2 c0 rg sl s10) := by subst hs11; exact hD
      refine lv_goto (tgt := 31) hx hb dX10_odds_27 (by decide) ?_
      exact q_iret C hr hlocks hK hP hD hS (Nat.le_of_ble_eq_true rfl) (Nat.le_of_ble_eq_true rfl) dX10_odds_31 (by cases hB; exact ⟨rfl, rfl⟩)
theorem ckX10_odds {l : Launch} {dC : Nat → ClassId} {dI : Nat → Nat → Nat} {cB cI cJ cZ cS : ClassId} {a b b2 c0 : Nat → Nat} {rg sl : Nat → Option Nat} {r : Int32} {s' : XS} {s : XS} {x1 : Int32} {x2 : Int32} (hB : kX10_odds s x1 x2 = some (r, s')) : CI l yX10_odds wsX10_odds ({ frames := 1, cells := 0, slots := 0, locals := 22 }) (dC, dI) (tysA cB cI cJ cZ cS) (wX cB cI cJ cZ cS a b b2 c0 rg sl s) [.ref (c0 0), .int x1, .int x2] (fun x u => x = r ∧ u = (wX cB cI cJ cZ cS a b b2 c0 rg sl s')) :=
  CI_of (cc := cX10_odds) (maxL := 3) (ret := (some .int)) (by decide) rfl (Nat.le_of_ble_eq_true rfl) (bkX10_odds _ _ _ hB)
theorem LX10_cases_35 : Cond.fieldLink RX10 35 "GuessFerry" "now" "LGuessFerry$Standing;" ∈ wsX10_cases := by decide +kernel
theorem LX10_cases_63 : Cond.fieldLink RX10 63 "GuessFerry" "outlook" "LGuessFerry$Outlook;" ∈ wsX10_cases := by decide +kernel
theorem LX10_cases_E_X2_caseCount : Cond.selects RX2 yX2_caseCount yX2_caseCount ∈ wsX10_cases := by decide +kernel
theorem LX10_cases_I_X2 : Cond.initialized RX2 ∈ wsX10_cases := by decide +kernel
theorem LX10_cases_N_X2_caseCount : Cond.instanceMethod yX2_caseCount ∈ wsX10_cases := by decide +kernel
theorem inX10_cases_X10 : ∀ w ∈ u_ws RX10 TX10 9, w ∈ wsX10_cases := by decide +kernel
set_option maxHeartbeats 4000000 in
set_option maxRecDepth 100000 in
theorem bkX10_cases {l : Launch} {dC : Nat → ClassId} {dI : Nat → Nat → Nat} {cB cI cJ cZ cS : ClassId} {a b b2 c0 : Nat → Nat} {rg sl : Nat → Option Nat} {as : List Value} {r : Int32} {s' : XS} (s : XS) (hB : kX10_cases s = some (r, s')) : BlkI l yX10_cases wsX10_cases ({ frames := 3, cells := 0, slots := 0, locals := 67 }) cX10_cases 1 (some .int) (dC, dI) (tysA cB cI cJ cZ cS) as 0 (wX cB cI cJ cZ cS a b b2 c0 rg sl s) [(0, .ref (c0 0))] [] (fun x u => x = r ∧ u = (wX cB cI cJ cZ cS a b b2 c0 rg sl s')) := by
  intro p e s0 m below meth c A E H locs ls hP hD hS hl
  obtain ⟨C, hr, hlocks, hA, hK, hN⟩ := id E
  obtain ⟨hx, hb, hml, hown, hts⟩ := id C
  unfold kX10_cases at hB
  refine lv_aload_n hx hb dX10_cases_0 rfl (lv_at hl 0 rfl) ?_
  refine q_get (v := .ref (a 36)) C inX10_cases_X10 hK hP 0 rfl rfl 7 (by decide) rfl LX10_cases_63 rfl dX10_cases_1 ?_
  refine lv_aload_n hx hb dX10_cases_4 rfl (lv_at hl 0 rfl) ?_
  refine q_get (v := .ref (b 0)) C inX10_cases_X10 hK hP 0 rfl rfl 3 (by decide) rfl LX10_cases_35 rfl dX10_cases_5 ?_
  obtain ⟨q_, s1, hc, hB⟩ := bindI_inv hB
  refine q_goi (wr := ((wG cZ cS a b b2 c0 rg sl s.g) ++ (wD cI b2 s.t))) (va_runVN (As := [.ref (b 0)]) (rest := []) C (ckX2_caseCount hc _) ⟨va_cnB 1 hts gX10_cases_X2_caseCount_n196 rfl rfl rfl (hN _ nwM_X10_196 rfl) (hts _ LX10_cases_I_X2) (by decide +kernel) ⟨Nat.le_of_ble_eq_true rfl, Nat.le_of_ble_eq_true rfl⟩, hts _ LX10_cases_N_X2_caseCount, hts _ LX10_cases_E_X2_caseCount⟩ (q_preV hK hP (ci := 2) (q0 := 53) rfl rfl rfl (q_pre hN hK hP hD [11, 12, 13, 14, 15, 16, 17, 18, 19, 20, 21, 22, 23, 24, 25, 26, 27, 28, 29, 30, 31, 32, 33, 34, 35, 36, 37, 38, 39, 40, 41, 42, 43, 44, 45, 46, 47, 48, 49, 50, 51, 52, 53, 54, 55, 56, 57, 58, 59, 60, 61, 62, 63] rfl (by decide))) rfl rfl hl.1 rfl (lv_room (Nat.le_of_ble_eq_true rfl)) dX10_cases_8 ⟨Nat.le_of_ble_eq_true rfl, Nat.le_of_ble_eq_true rfl⟩) hP hD hS hA [11, 12, 13, 14, 15, 16, 17, 18, 19, 20, 21, 22, 23, 24, 25, 26, 27, 28, 29, 30, 31, 32, 33, 34, 35, 36, 37, 38, 39, 40, 41, 42, 43, 44, 45, 46, 47, 48, 49, 50, 51, 52, 53, 54, 55, 56, 57, 58, 59, 60, 61, 62, 63] [0, 1, 2, 3, 4, 5, 6, 7, 8, 9, 10] rfl rfl (by decide) (by decide) (fun r2 w1 H locs hw hP hD hS => ?_)
  obtain ⟨hq_, hw⟩ := hw; subst hw; subst hq_
  obtain ⟨s3, hs4, hB⟩ := letS_inv hB
  have hP : va_P (dC, dI) vwCl (wX cB cI cJ cZ cS a b b2 c0 rg sl s3) H := by subst hs4; exact hP
  have hD : va_D A (wX cB cI cJ cZ cS a b b2 c0 rg sl s3) := by subst hs4; exact hD
  exact q_iret C hr hlocks hK hP hD hS (Nat.le_of_ble_eq_true rfl) (Nat.le_of_ble_eq_true rfl) dX10_cases_11 (by cases hB; exact ⟨rfl, rfl⟩)
theorem ckX10_cases {l : Launch} {dC : Nat → ClassId} {dI : Nat → Nat → Nat} {cB cI cJ cZ cS : ClassId} {a b b2 c0 : Nat → Nat} {rg sl : Nat → Option Nat} {r : Int32} {s' : XS} {s : XS} (hB : kX10_cases s = some (r, s')) : CI l yX10_cases wsX10_cases ({ frames := 3, cells := 0, slots := 0, locals := 67 }) (dC, dI) (tysA cB cI cJ cZ cS) (wX cB cI cJ cZ cS a b b2 c0 rg sl s) [.ref (c0 0)] (fun x u => x = r ∧ u = (wX cB cI cJ cZ cS a b b2 c0 rg sl s')) :=
  CI_of (cc := cX10_cases) (maxL := 1) (ret := (some .int)) (by decide) rfl (Nat.le_of_ble_eq_true rfl) (bkX10_cases _ hB)
theorem LX10_chance_19 : Cond.fieldLink RX10 19 "GuessFerry" "sound" "LGuessFerry$Sound;" ∈ wsX10_chance := by decide +kernel
theorem LX10_chance_35 : Cond.fieldLink RX10 35 "GuessFerry" "now" "LGuessFerry$Standing;" ∈ wsX10_chance := by decide +kernel
theorem LX10_chance_63 : Cond.fieldLink RX10 63 "GuessFerry" "outlook" "LGuessFerry$Outlook;" ∈ wsX10_chance := by decide +kernel
theorem LX10_chance_E_X2_oddsOf : Cond.selects RX2 yX2_oddsOf yX2_oddsOf ∈ wsX10_chance := by decide +kernel
theorem LX10_chance_E_X5_hasGuess : Cond.selects RX5 yX5_hasGuess yX5_hasGuess ∈ wsX10_chance := by decide +kernel
theorem LX10_chance_I_X2 : Cond.initialized RX2 ∈ wsX10_chance := by decide +kernel
theorem LX10_chance_I_X5 : Cond.initialized RX5 ∈ wsX10_chance := by decide +kernel
theorem LX10_chance_N_X2_oddsOf : Cond.instanceMethod yX2_oddsOf ∈ wsX10_chance := by decide +kernel
theorem LX10_chance_N_X5_hasGuess : Cond.instanceMethod yX5_hasGuess ∈ wsX10_chance := by decide +kernel
theorem inX10_chance_X10 : ∀ w ∈ u_ws RX10 TX10 9, w ∈ wsX10_chance := by decide +kernel
set_option maxHeartbeats 4000000 in
set_option maxRecDepth 100000 in
theorem bkX10_chance {l : Launch} {dC : Nat → ClassId} {dI : Nat → Nat → Nat} {cB cI cJ cZ cS : ClassId} {a b b2 c0 : Nat → Nat} {rg sl : Nat → Option Nat} {as : List Value} {r : Int32} {s' : XS} (s : XS) (x1 : Int32) (hB : kX10_chance s x1 = some (r, s')) : BlkI l yX10_chance wsX10_chance ({ frames := 3, cells := 0, slots := 0, locals := 69 }) cX10_chance 2 (some .int) (dC, dI) (tysA cB cI cJ cZ cS) as 0 (wX cB cI cJ cZ cS a b b2 c0 rg sl s) [(0, .ref (c0 0)), (1, .int x1)] [] (fun x u => x = r ∧ u = (wX cB cI cJ cZ cS a b b2 c0 rg sl s')) := by
  intro p e s0 m below meth c A E H locs ls hP hD hS hl
  obtain ⟨C, hr, hlocks, hA, hK, hN⟩ := id E
  obtain ⟨hx, hb, hml, hown, hts⟩ := id C
  unfold kX10_chance at hB
  refine lv_aload_n hx hb dX10_chance_0 rfl (lv_at hl 0 rfl) ?_
  refine q_get (v := .ref (a 2)) C inX10_chance_X10 hK hP 0 rfl rfl 1 (by decide) rfl LX10_chance_19 rfl dX10_chance_1 ?_
  refine lv_iload_n hx hb dX10_chance_4 rfl (lv_at hl 1 rfl) ?_
  obtain ⟨q_, s1, hc, hB⟩ := bindI_inv hB
  refine q_goi (wr := ((wG cZ cS a b b2 c0 rg sl s.g) ++ (wD cI b2 s.t) ++ (wD cI b s.n))) (va_runVN (As := [.int x1]) (rest := []) C (ckX5_hasGuess hc _) ⟨va_cnB 1 hts gX10_chance_X5_hasGuess_n170 rfl rfl rfl (hN _ nwM_X10_170 rfl) (hts _ LX10_chance_I_X5) (by decide +kernel) ⟨Nat.le_of_ble_eq_true rfl, Nat.le_of_ble_eq_true rfl⟩, hts _ LX10_chance_N_X5_hasGuess, hts _ LX10_chance_E_X5_hasGuess⟩ (q_preV hK hP (ci := 5) (q0 := 19) rfl rfl rfl (q_pre hN hK hP hD [17, 18, 19, 20, 21, 22, 23, 24, 25, 26, 27, 28, 29, 30, 31, 32, 33, 34, 35, 36, 37, 38, 39, 40, 41, 42, 43, 44, 45, 46, 47, 48, 49, 50, 51, 52, 53, 54, 55, 56, 57, 58, 59, 60, 61, 62, 63] rfl (by decide))) rfl rfl hl.1 rfl (lv_room (Nat.le_of_ble_eq_true rfl)) dX10_chance_5 ⟨Nat.le_of_ble_eq_true rfl, Nat.le_of_ble_eq_true rfl⟩) hP hD hS hA [17, 18, 19, 20, 21, 22, 23, 24, 25, 26, 27, 28, 29, 30, 31, 32, 33, 34, 35, 36, 37, 38, 39, 40, 41, 42, 43, 44, 45, 46, 47, 48, 49, 50, 51, 52, 53, 54, 55, 56, 57, 58, 59, 60, 61, 62, 63] [0, 1, 2, 3, 4, 5, 6, 7, 8, 9, 10, 11, 12, 13, 14, 15, 16] rfl rfl (by decide) (by decide) (fun r2 w1 H locs hw hP hD hS => ?_)
  obtain ⟨hq_, hw⟩ := hw; subst hw; subst hq_
  obtain ⟨s3, hs4, hB⟩ := letS_inv hB
  have hP : va_P (dC, dI) vwCl (wX cB cI cJ cZ cS a b b2 c0 rg sl s3) H := by subst hs4; exact hP
  have hD : va_D A (wX cB cI cJ cZ cS a b b2 c0 rg sl s3) := by subst hs4; exact hD
  refine lv_if_eq (tgt := 26) hx hb dX10_chance_8 (by decide) (fun c5 => ?_) (fun c5 => ?_)
  · have hB := if_p hB c5
    refine lv_iconst (v := (-1)) hx hb dX10_chance_26 (by decide) ?_
    exact q_iret C hr hlocks hK hP hD hS (Nat.le_of_ble_eq_true rfl) (Nat.le_of_ble_eq_true rfl) dX10_chance_27 (by cases hB; exact ⟨rfl, rfl⟩)
  · have hB := if_n hB c5
    refine lv_aload_n hx hb dX10_chance_11 rfl (lv_at hl 0 rfl) ?_
    refine q_get (v := .ref (a 36)) C inX10_chance_X10 hK hP 0 rfl rfl 7 (by decide) rfl LX10_chance_63 rfl dX10_chance_12 ?_
    refine lv_aload_n hx hb dX10_chance_15 rfl (lv_at hl 0 rfl) ?_
    refine q_get (v := .ref (b 0)) C inX10_chance_X10 hK hP 0 rfl rfl 3 (by decide) rfl LX10_chance_35 rfl dX10_chance_16 ?_
    refine lv_iload_n hx hb dX10_chance_19 rfl (lv_at hl 1 rfl) ?_
    obtain ⟨q_, s6, hc, hB⟩ := bindI_inv hB
    refine q_goi (wr := ((wG cZ cS a b b2 c0 rg sl s3.g) ++ (wD cI b2 s3.t))) (va_runVN (As := [.ref (b 0), .int x1]) (rest := []) C (ckX2_oddsOf hc _) ⟨va_cnB 2 hts gX10_chance_X2_oddsOf_n200 rfl rfl rfl (hN _ nwM_X10_200 rfl) (hts _ LX10_chance_I_X2) (by decide +kernel) ⟨Nat.le_of_ble_eq_true rfl, Nat.le_of_ble_eq_true rfl⟩, hts _ LX10_chance_N_X2_oddsOf, hts _ LX10_chance_E_X2_oddsOf⟩ (q_preV hK hP (ci := 2) (q0 := 53) rfl rfl rfl (q_pre hN hK hP hD [11, 12, 13, 14, 15, 16, 17, 18, 19, 20, 21, 22, 23, 24, 25, 26, 27, 28, 29, 30, 31, 32, 33, 34, 35, 36, 37, 38, 39, 40, 41, 42, 43, 44, 45, 46, 47, 48, 49, 50, 51, 52, 53, 54, 55, 56, 57, 58, 59, 60, 61, 62, 63] rfl (by decide))) rfl rfl hl.1 rfl (lv_room (Nat.le_of_ble_eq_true rfl)) dX10_chance_20 ⟨Nat.le_of_ble_eq_true rfl, Nat.le_of_ble_eq_true rfl⟩) hP hD hS hA [11, 12, 13, 14, 15, 16, 17, 18, 19, 20, 21, 22, 23, 24, 25, 26, 27, 28, 29, 30, 31, 32, 33, 34, 35, 36, 37, 38, 39, 40, 41, 42, 43, 44, 45, 46, 47, 48, 49, 50, 51, 52, 53, 54, 55, 56, 57, 58, 59, 60, 61, 62, 63] [0, 1, 2, 3, 4, 5, 6, 7, 8, 9, 10] rfl rfl (by decide) (by decide) (fun r7 w1 H locs hw hP hD hS => ?_)
    obtain ⟨hq_, hw⟩ := hw; subst hw; subst hq_
    obtain ⟨s8, hs9, hB⟩ := letS_inv hB
    have hP : va_P (dC, dI) vwCl (wX cB cI cJ cZ cS a b b2 c0 rg sl s8) H := by subst hs9; exact hP
    have hD : va_D A (wX cB cI cJ cZ cS a b b2 c0 rg sl s8) := by subst hs9; exact hD
    refine lv_goto (tgt := 27) hx hb dX10_chance_23 (by decide) ?_
    exact q_iret C hr hlocks hK hP hD hS (Nat.le_of_ble_eq_true rfl) (Nat.le_of_ble_eq_true rfl) dX10_chance_27 (by cases hB; exact ⟨rfl, rfl⟩)
theorem ckX10_chance {l : Launch} {dC : Nat → ClassId} {dI : Nat → Nat → Nat} {cB cI cJ cZ cS : ClassId} {a b b2 c0 : Nat → Nat} {rg sl : Nat → Option Nat} {r : Int32} {s' : XS} {s : XS} {x1 : Int32} (hB : kX10_chance s x1 = some (r, s')) : CI l yX10_chance wsX10_chance ({ frames := 3, cells := 0, slots := 0, locals := 69 }) (dC, dI) (tysA cB cI cJ cZ cS) (wX cB cI cJ cZ cS a b b2 c0 rg sl s) [.ref (c0 0), .int x1] (fun x u => x = r ∧ u = (wX cB cI cJ cZ cS a b b2 c0 rg sl s')) :=
  CI_of (cc := cX10_chance) (maxL := 2) (ret := (some .int)) (by decide) rfl (Nat.le_of_ble_eq_true rfl) (bkX10_chance _ _ hB)
theorem LX10_enough_35 : Cond.fieldLink RX10 35 "GuessFerry" "now" "LGuessFerry$Standing;" ∈ wsX10_enough := by decide +kernel
theorem LX10_enough_63 : Cond.fieldLink RX10 63 "GuessFerry" "outlook" "LGuessFerry$Outlook;" ∈ wsX10_enough := by decide +kernel
theorem LX10_enough_E_X2_caseCount : Cond.selects RX2 yX2_caseCount yX2_caseCount ∈ wsX10_enough := by decide +kernel
theorem LX10_enough_E_X2_goesAtMost : Cond.selects RX2 yX2_goesAtMost yX2_goesAtMost ∈ wsX10_enough := by decide +kernel
theorem LX10_enough_I_X2 : Cond.initialized RX2 ∈ wsX10_enough := by decide +kernel
theorem LX10_enough_N_X2_caseCount : Cond.instanceMethod yX2_caseCount ∈ wsX10_enough := by decide +kernel
theorem LX10_enough_N_X2_goesAtMost : Cond.instanceMethod yX2_goesAtMost ∈ wsX10_enough := by decide +kernel
theorem inX10_enough_X10 : ∀ w ∈ u_ws RX10 TX10 9, w ∈ wsX10_enough := by decide +kernel
set_option maxHeartbeats 4000000 in
set_option maxRecDepth 100000 in
theorem bkX10_enough {l : Launch} {dC : Nat → ClassId} {dI : Nat → Nat → Nat} {cB cI cJ cZ cS : ClassId} {a b b2 c0 : Nat → Nat} {rg sl : Nat → Option Nat} {as : List Value} {r : Int32} {s' : XS} (s : XS) (hB : kX10_enough s = some (r, s')) : BlkI l yX10_enough wsX10_enough ({ frames := 3, cells := 0, slots := 0, locals := 67 }) cX10_enough 1 (some .int) (dC, dI) (tysA cB cI cJ cZ cS) as 0 (wX cB cI cJ cZ cS a b b2 c0 rg sl s) [(0, .ref (c0 0))] [] (fun x u => x = r ∧ u = (wX cB cI cJ cZ cS a b b2 c0 rg sl s')) := by
  intro p e s0 m below meth c A E H locs ls hP hD hS hl
  obtain ⟨C, hr, hlocks, hA, hK, hN⟩ := id E
  obtain ⟨hx, hb, hml, hown, hts⟩ := id C
  unfold kX10_enough at hB
  refine lv_aload_n hx hb dX10_enough_0 rfl (lv_at hl 0 rfl) ?_
  refine q_get (v := .ref (a 36)) C inX10_enough_X10 hK hP 0 rfl rfl 7 (by decide) rfl LX10_enough_63 rfl dX10_enough_1 ?_
  refine lv_aload_n hx hb dX10_enough_4 rfl (lv_at hl 0 rfl) ?_
  refine q_get (v := .ref (b 0)) C inX10_enough_X10 hK hP 0 rfl rfl 3 (by decide) rfl LX10_enough_35 rfl dX10_enough_5 ?_
  obtain ⟨q_, s1, hc, hB⟩ := bindI_inv hB
  refine q_goi (wr := ((wG cZ cS a b b2 c0 rg sl s.g) ++ (wD cI b2 s.t))) (va_runVN (As := [.ref (b 0)]) (rest := []) C (ckX2_caseCount hc _) ⟨va_cnB 1 hts gX10_enough_X2_caseCount_n196 rfl rfl rfl (hN _ nwM_X10_196 rfl) (hts _ LX10_enough_I_X2) (by decide +kernel) ⟨Nat.le_of_ble_eq_true rfl, Nat.le_of_ble_eq_true rfl⟩, hts _ LX10_enough_N_X2_caseCount, hts _ LX10_enough_E_X2_caseCount⟩ (q_preV hK hP (ci := 2) (q0 := 53) rfl rfl rfl (q_pre hN hK hP hD [11, 12, 13, 14, 15, 16, 17, 18, 19, 20, 21, 22, 23, 24, 25, 26, 27, 28, 29, 30, 31, 32, 33, 34, 35, 36, 37, 38, 39, 40, 41, 42, 43, 44, 45, 46, 47, 48, 49, 50, 51, 52, 53, 54, 55, 56, 57, 58, 59, 60, 61, 62, 63] rfl (by decide))) rfl rfl hl.1 rfl (lv_room (Nat.le_of_ble_eq_true rfl)) dX10_enough_8 ⟨Nat.le_of_ble_eq_true rfl, Nat.le_of_ble_eq_true rfl⟩) hP hD hS hA [11, 12, 13, 14, 15, 16, 17, 18, 19, 20, 21, 22, 23, 24, 25, 26, 27, 28, 29, 30, 31, 32, 33, 34, 35, 36, 37, 38, 39, 40, 41, 42, 43, 44, 45, 46, 47, 48, 49, 50, 51, 52, 53, 54, 55, 56, 57, 58, 59, 60, 61, 62, 63] [0, 1, 2, 3, 4, 5, 6, 7, 8, 9, 10] rfl rfl (by decide) (by decide) (fun r2 w1 H locs hw hP hD hS => ?_)
  obtain ⟨hq_, hw⟩ := hw; subst hw; subst hq_
  obtain ⟨s3, hs4, hB⟩ := letS_inv hB
  have hP : va_P (dC, dI) vwCl (wX cB cI cJ cZ cS a b b2 c0 rg sl s3) H := by subst hs4; exact hP
  have hD : va_D A (wX cB cI cJ cZ cS a b b2 c0 rg sl s3) := by subst hs4; exact hD
  refine lv_if_ne (tgt := 19) hx hb dX10_enough_11 (by decide) (fun c5 => ?_) (fun c5 => ?_)
  · have hB := if_n hB c5
    refine lv_aload_n hx hb dX10_enough_19 rfl (lv_at hl 0 rfl) ?_
    refine q_get (v := .ref (a 36)) C inX10_enough_X10 hK hP 0 rfl rfl 7 (by decide) rfl LX10_enough_63 rfl dX10_enough_20 ?_
    refine lv_aload_n hx hb dX10_enough_23 rfl (lv_at hl 0 rfl) ?_
    refine q_get (v := .ref (b 0)) C inX10_enough_X10 hK hP 0 rfl rfl 3 (by decide) rfl LX10_enough_35 rfl dX10_enough_24 ?_
    obtain ⟨q_, s6, hc, hB⟩ := bindI_inv hB
    refine q_goi (wr := ((wG cZ cS a b b2 c0 rg sl s3.g) ++ (wD cI b2 s3.t))) (va_runVN (As := [.ref (b 0)]) (rest := []) C (ckX2_goesAtMost hc _) ⟨va_cnB 1 hts gX10_enough_X2_goesAtMost_n212 rfl rfl rfl (hN _ nwM_X10_212 rfl) (hts _ LX10_enough_I_X2) (by decide +kernel) ⟨Nat.le_of_ble_eq_true rfl, Nat.le_of_ble_eq_true rfl⟩, hts _ LX10_enough_N_X2_goesAtMost, hts _ LX10_enough_E_X2_goesAtMost⟩ (q_preV hK hP (ci := 2) (q0 := 53) rfl rfl rfl (q_pre hN hK hP hD [11, 12, 13, 14, 15, 16, 17, 18, 19, 20, 21, 22, 23, 24, 25, 26, 27, 28, 29, 30, 31, 32, 33, 34, 35, 36, 37, 38, 39, 40, 41, 42, 43, 44, 45, 46, 47, 48, 49, 50, 51, 52, 53, 54, 55, 56, 57, 58, 59, 60, 61, 62, 63] rfl (by decide))) rfl rfl hl.1 rfl (lv_room (Nat.le_of_ble_eq_true rfl)) dX10_enough_27 ⟨Nat.le_of_ble_eq_true rfl, Nat.le_of_ble_eq_true rfl⟩) hP hD hS hA [11, 12, 13, 14, 15, 16, 17, 18, 19, 20, 21, 22, 23, 24, 25, 26, 27, 28, 29, 30, 31, 32, 33, 34, 35, 36, 37, 38, 39, 40, 41, 42, 43, 44, 45, 46, 47, 48, 49, 50, 51, 52, 53, 54, 55, 56, 57, 58, 59, 60, 61, 62, 63] [0, 1, 2, 3, 4, 5, 6, 7, 8, 9, 10] rfl rfl (by decide) (by decide) (fun r7 w1 H locs hw hP hD hS => ?_)
    obtain ⟨hq_, hw⟩ := hw; subst hw; subst hq_
    obtain ⟨s8, hs9, hB⟩ := letS_inv hB
    have hP : va_P (dC, dI) vwCl (wX cB cI cJ cZ cS a b b2 c0 rg sl s8) H := by subst hs9; exact hP
    have hD : va_D A (wX cB cI cJ cZ cS a b b2 c0 rg sl s8) := by subst hs9; exact hD
    exact q_iret C hr hlocks hK hP hD hS (Nat.le_of_ble_eq_true rfl) (Nat.le_of_ble_eq_true rfl) dX10_enough_30 (by cases hB; exact ⟨rfl, rfl⟩)
  · have hB := if_p hB c5
    refine lv_bipush (v := (-2)) hx hb dX10_enough_14 (by decide) ?_
    refine lv_goto (tgt := 30) hx hb dX10_enough_16 (by decide) ?_
    exact q_iret C hr hlocks hK hP hD hS (Nat.le_of_ble_eq_true rfl) (Nat.le_of_ble_eq_true rfl) dX10_enough_30 (by cases hB; exact ⟨rfl, rfl⟩)
theorem ckX10_enough {l : Launch} {dC : Nat → ClassId} {dI : Nat → Nat → Nat} {cB cI cJ cZ cS : ClassId} {a b b2 c0 : Nat → Nat} {rg sl : Nat → Option Nat} {r : Int32} {s' : XS} {s : XS} (hB : kX10_enough s = some (r, s')) : CI l yX10_enough wsX10_enough ({ frames := 3, cells := 0, slots := 0, locals := 67 }) (dC, dI) (tysA cB cI cJ cZ cS) (wX cB cI cJ cZ cS a b b2 c0 rg sl s) [.ref (c0 0)] (fun x u => x = r ∧ u = (wX cB cI cJ cZ cS a b b2 c0 rg sl s')) :=
  CI_of (cc := cX10_enough) (maxL := 1) (ret := (some .int)) (by decide) rfl (Nat.le_of_ble_eq_true rfl) (bkX10_enough _ hB)
theorem LX10_left_19 : Cond.fieldLink RX10 19 "GuessFerry" "sound" "LGuessFerry$Sound;" ∈ wsX10_left := by decide +kernel
theorem LX10_left_35 : Cond.fieldLink RX10 35 "GuessFerry" "now" "LGuessFerry$Standing;" ∈ wsX10_left := by decide +kernel
theorem LX10_left_63 : Cond.fieldLink RX10 63 "GuessFerry" "outlook" "LGuessFerry$Outlook;" ∈ wsX10_left := by decide +kernel
theorem LX10_left_E_X2_caseCount : Cond.selects RX2 yX2_caseCount yX2_caseCount ∈ wsX10_left := by decide +kernel
theorem LX10_left_E_X2_leftBehind : Cond.selects RX2 yX2_leftBehind yX2_leftBehind ∈ wsX10_left := by decide +kernel
theorem LX10_left_E_X5_hasGuess : Cond.selects RX5 yX5_hasGuess yX5_hasGuess ∈ wsX10_left := by decide +kernel
theorem LX10_left_I_X2 : Cond.initialized RX2 ∈ wsX10_left := by decide +kernel
theorem LX10_left_I_X5 : Cond.initialized RX5 ∈ wsX10_left := by decide +kernel
theorem LX10_left_N_X2_caseCount : Cond.instanceMethod yX2_caseCount ∈ wsX10_left := by decide +kernel
theorem LX10_left_N_X2_leftBehind : Cond.instanceMethod yX2_leftBehind ∈ wsX10_left := by decide +kernel
theorem LX10_left_N_X5_hasGuess : Cond.instanceMethod yX5_hasGuess ∈ wsX10_left := by decide +kernel
theorem inX10_left_X10 : ∀ w ∈ u_ws RX10 TX10 9, w ∈ wsX10_left := by decide +kernel
set_option maxHeartbeats 4000000 in
set_option maxRecDepth 100000 in
theorem bkX10_left {l : Launch} {dC : Nat → ClassId} {dI : Nat → Nat → Nat} {cB cI cJ cZ cS : ClassId} {a b b2 c0 : Nat → Nat} {rg sl : Nat → Option Nat} {as : List Value} {r : Int32} {s' : XS} (s : XS) (x1 : Int32) (hB : kX10_left s x1 = some (r, s')) : BlkI l yX10_left wsX10_left ({ frames := 3, cells := 0, slots := 0, locals := 70 }) cX10_left 2 (some .int) (dC, dI) (tysA cB cI cJ cZ cS) as 0 (wX cB cI cJ cZ cS a b b2 c0 rg sl s) [(0, .ref (c0 0)), (1, .int x1)] [] (fun x u => x = r ∧ u = (wX cB cI cJ cZ cS a b b2 c0 rg sl s')) := by
  intro p e s0 m below meth c A E H locs ls hP hD hS hl
  obtain ⟨C, hr, hlocks, hA, hK, hN⟩ := id E
  obtain ⟨hx, hb, hml, hown, hts⟩ := id C
  unfold kX10_left at hB
  refine lv_aload_n hx hb dX10_left_0 rfl (lv_at hl 0 rfl) ?_
  refine q_get (v := .ref (a 2)) C inX10_left_X10 hK hP 0 rfl rfl 1 (by decide) rfl LX10_left_19 rfl dX10_left_1 ?_
  refine lv_iload_n hx hb dX10_left_4 rfl (lv_at hl 1 rfl) ?_
  obtain ⟨q_, s1, hc, hB⟩ := bindI_inv hB
  refine q_goi (wr := ((wG cZ cS a b b2 c0 rg sl s.g) ++ (wD cI b2 s.t) ++ (wD cI b s.n))) (va_runVN (As := [.int x1]) (rest := []) C (ckX5_hasGuess hc _) ⟨va_cnB 1 hts gX10_left_X5_hasGuess_n170 rfl rfl rfl (hN _ nwM_X10_170 rfl) (hts _ LX10_left_I_X5) (by decide +kernel) ⟨Nat.le_of_ble_eq_true rfl, Nat.le_of_ble_eq_true rfl⟩, hts _ LX10_left_N_X5_hasGuess, hts _ LX10_left_E_X5_hasGuess⟩ (q_preV hK hP (ci := 5) (q0 := 19) rfl rfl rfl (q_pre hN hK hP hD [17, 18, 19, 20, 21, 22, 23, 24, 25, 26, 27, 28, 29, 30, 31, 32, 33, 34, 35, 36, 37, 38, 39, 40, 41, 42, 43, 44, 45, 46, 47, 48, 49, 50, 51, 52, 53, 54, 55, 56, 57, 58, 59, 60, 61, 62, 63] rfl (by decide))) rfl rfl hl.1 rfl (lv_room (Nat.le_of_ble_eq_true rfl)) dX10_left_5 ⟨Nat.le_of_ble_eq_true rfl, Nat.le_of_ble_eq_true rfl⟩) hP hD hS hA [17, 18, 19, 20, 21, 22, 23, 24, 25, 26, 27, 28, 29, 30, 31, 32, 33, 34, 35, 36, 37, 38, 39, 40, 41, 42, 43, 44, 45, 46, 47, 48, 49, 50, 51, 52, 53, 54, 55, 56, 57, 58, 59, 60, 61, 62, 63] [0, 1, 2, 3, 4, 5, 6, 7, 8, 9, 10, 11, 12, 13, 14, 15, 16] rfl rfl (by decide) (by decide) (fun r2 w1 H locs hw hP hD hS => ?_)
  obtain ⟨hq_, hw⟩ := hw; subst hw; subst hq_
  obtain ⟨s3, hs4, hB⟩ := letS_inv hB
  have hP : va_P (dC, dI) vwCl (wX cB cI cJ cZ cS a b b2 c0 rg sl s3) H := by subst hs4; exact hP
  have hD : va_D A (wX cB cI cJ cZ cS a b b2 c0 rg sl s3) := by subst hs4; exact hD
  refine lv_if_ne (tgt := 13) hx hb dX10_left_8 (by decide) (fun c5 => ?_) (fun c5 => ?_)
  · have hB := if_n hB c5
    refine lv_aload_n hx hb dX10_left_13 rfl (lv_at hl 0 rfl) ?_
    refine q_get (v := .ref (a 36)) C inX10_left_X10 hK hP 0 rfl rfl 7 (by decide) rfl LX10_left_63 rfl dX10_left_14 ?_
    refine lv_aload_n hx hb dX10_left_17 rfl (lv_at hl 0 rfl) ?_
    refine q_get (v := .ref (b 0)) C inX10_left_X10 hK hP 0 rfl rfl 3 (by decide) rfl LX10_left_35 rfl dX10_left_18 ?_
    obtain ⟨q_, s6, hc, hB⟩ := bindI_inv hB
    refine q_goi (wr := ((wG cZ cS a b b2 c0 rg sl s3.g) ++ (wD cI b2 s3.t))) (va_runVN (As := [.ref (b 0)]) (rest := []) C (ckX2_caseCount hc _) ⟨va_cnB 1 hts gX10_left_X2_caseCount_n196 rfl rfl rfl (hN _ nwM_X10_196 rfl) (hts _ LX10_left_I_X2) (by decide +kernel) ⟨Nat.le_of_ble_eq_true rfl, Nat.le_of_ble_eq_true rfl⟩, hts _ LX10_left_N_X2_caseCount, hts _ LX10_left_E_X2_caseCount⟩ (q_preV hK hP (ci := 2) (q0 := 53) rfl rfl rfl (q_pre hN hK hP hD [11, 12, 13, 14, 15, 16, 17, 18, 19, 20, 21, 22, 23, 24, 25, 26, 27, 28, 29, 30, 31, 32, 33, 34, 35, 36, 37, 38, 39, 40, 41, 42, 43, 44, 45, 46, 47, 48, 49, 50, 51, 52, 53, 54, 55, 56, 57, 58, 59, 60, 61, 62, 63] rfl (by decide))) rfl rfl hl.1 rfl (lv_room (Nat.le_of_ble_eq_true rfl)) dX10_left_21 ⟨Nat.le_of_ble_eq_true rfl, Nat.le_of_ble_eq_true rfl⟩) hP hD hS hA [11, 12, 13, 14, 15, 16, 17, 18, 19, 20, 21, 22, 23, 24, 25, 26, 27, 28, 29, 30, 31, 32, 33, 34, 35, 36, 37, 38, 39, 40, 41, 42, 43, 44, 45, 46, 47, 48, 49, 50, 51, 52, 53, 54, 55, 56, 57, 58, 59, 60, 61, 62, 63] [0, 1, 2, 3, 4, 5, 6, 7, 8, 9, 10] rfl rfl (by decide) (by decide) (fun r7 w1 H locs hw hP hD hS => ?_)
    obtain ⟨hq_, hw⟩ := hw; subst hw; subst hq_
    obtain ⟨s8, hs9, hB⟩ := letS_inv hB
    have hP : va_P (dC, dI) vwCl (wX cB cI cJ cZ cS a b b2 c0 rg sl s8) H := by subst hs9; exact hP
    have hD : va_D A (wX cB cI cJ cZ cS a b b2 c0 rg sl s8) := by subst hs9; exact hD
    refine lv_if_ne (tgt := 32) hx hb dX10_left_24 (by decide) (fun c10 => ?_) (fun c10 => ?_)
    · have hB := if_n hB c10
      refine lv_aload_n hx hb dX10_left_32 rfl (lv_at hl 0 rfl) ?_
      refine q_get (v := .ref (a 36)) C inX10_left_X10 hK hP 0 rfl rfl 7 (by decide) rfl LX10_left_63 rfl dX10_left_33 ?_
      refine lv_aload_n hx hb dX10_left_36 rfl (lv_at hl 0 rfl) ?_
      refine q_get (v := .ref (b 0)) C inX10_left_X10 hK hP 0 rfl rfl 3 (by decide) rfl LX10_left_35 rfl dX10_left_37 ?_
      refine lv_iload_n hx hb dX10_left_40 rfl (lv_at hl 1 rfl) ?_
      obtain ⟨q_, s11, hc, hB⟩ := bindI_inv hB
      refine q_goi (wr := ((wG cZ cS a b b2 c0 rg sl s8.g) ++ (wD cI b2 s8.t))) (va_runVN (As := [.ref (b 0), .int x1]) (rest := []) C (ckX2_leftBehind hc _) ⟨va_cnB 2 hts gX10_left_X2_leftBehind_n215 rfl rfl rfl (hN _ nwM_X10_215 rfl) (hts _ LX10_left_I_X2) (by decide +kernel) ⟨Nat.le_of_ble_eq_true rfl, Nat.le_of_ble_eq_true rfl⟩, hts _ LX10_left_N_X2_leftBehind, hts _ LX10_left_E_X2_leftBehind⟩ (q_preV hK hP (ci := 2) (q0 := 53) rfl rfl rfl (q_pre hN hK hP hD [11, 12, 13, 14, 15, 16, 17, 18, 19, 20, 21, 22, 23, 24, 25, 26, 27, 28, 29, 30, 31, 32, 33, 34, 35, 36, 37, 38, 39, 40, 41, 42, 43, 44, 45, 46, 47, 48, 49, 50, 51, 52, 53, 54, 55, 56, 57, 58, 59, 60, 61, 62, 63] rfl (by decide))) rfl rfl hl.1 rfl (lv_room (Nat.le_of_ble_eq_true rfl)) dX10_left_41 ⟨Nat.le_of_ble_eq_true rfl, Nat.le_of_ble_eq_true rfl⟩) hP hD hS hA [11, 12, 13, 14, 15, 16, 17, 18, 19, 20, 21, 22, 23, 24, 25, 26, 27, 28, 29, 30, 31, 32, 33, 34, 35, 36, 37, 38, 39, 40, 41, 42, 43, 44, 45, 46, 47, 48, 49, 50, 51, 52, 53, 54, 55, 56, 57, 58, 59, 60, 61, 62, 63] [0, 1, 2, 3, 4, 5, 6, 7, 8, 9, 10] rfl rfl (by decide) (by decide) (fun r12 w1 H locs hw hP hD hS => ?_)
      obtain ⟨hq_, hw⟩ := hw; subst hw; subst hq_
      obtain ⟨s13, hs14, hB⟩ := letS_inv hB
      have hP : va_P (dC, dI) vwCl (wX cB cI cJ cZ cS a b b2 c0 rg sl s13) H := by subst hs14; exact hP
      have hD : va_D A (wX cB cI cJ cZ cS a b b2 c0 rg sl s13) := by subst hs14; exact hD
      exact q_iret C hr hlocks hK hP hD hS (Nat.le_of_ble_eq_true rfl) (Nat.le_of_ble_eq_true rfl) dX10_left_44 (by cases hB; exact ⟨rfl, rfl⟩)
    · have hB := if_p hB c10
      refine lv_bipush (v := (-2)) hx hb dX10_left_27 (by decide) ?_
      refine lv_goto (tgt := 44) hx hb dX10_left_29 (by decide) ?_
      exact q_iret C hr hlocks hK hP hD hS (Nat.le_of_ble_eq_true rfl) (Nat.le_of_ble_eq_true rfl) dX10_left_44 (by cases hB; exact ⟨rfl, rfl⟩)
  · have hB := if_p hB c5
    refine lv_iconst (v := (-1)) hx hb dX10_left_11 (by decide) ?_
    exact q_iret C hr hlocks hK hP hD hS (Nat.le_of_ble_eq_true rfl) (Nat.le_of_ble_eq_true rfl) dX10_left_12 (by cases hB; exact ⟨rfl, rfl⟩)
theorem ckX10_left {l : Launch} {dC : Nat → ClassId} {dI : Nat → Nat → Nat} {cB cI cJ cZ cS : ClassId} {a b b2 c0 : Nat → Nat} {rg sl : Nat → Option Nat} {r : Int32} {s' : XS} {s : XS} {x1 : Int32} (hB : kX10_left s x1 = some (r, s')) : CI l yX10_left wsX10_left ({ frames := 3, cells := 0, slots := 0, locals := 70 }) (dC, dI) (tysA cB cI cJ cZ cS) (wX cB cI cJ cZ cS a b b2 c0 rg sl s) [.ref (c0 0), .int x1] (fun x u => x = r ∧ u = (wX cB cI cJ cZ cS a b b2 c0 rg sl s')) :=
  CI_of (cc := cX10_left) (maxL := 2) (ret := (some .int)) (by decide) rfl (Nat.le_of_ble_eq_true rfl) (bkX10_left _ _ hB)
theorem LX10_wisest_35 : Cond.fieldLink RX10 35 "GuessFerry" "now" "LGuessFerry$Standing;" ∈ wsX10_wisest := by decide +kernel
theorem LX10_wisest_63 : Cond.fieldLink RX10 63 "GuessFerry" "outlook" "LGuessFerry$Outlook;" ∈ wsX10_wisest := by decide +kernel
theorem LX10_wisest_E_X2_caseCount : Cond.selects RX2 yX2_caseCount yX2_caseCount ∈ wsX10_wisest := by decide +kernel
theorem LX10_wisest_E_X2_leftBehind : Cond.selects RX2 yX2_leftBehind yX2_leftBehind ∈ wsX10_wisest := by decide +kernel
theorem LX10_wisest_E_X2_wisestGuess : Cond.selects RX2 yX2_wisestGuess yX2_wisestGuess ∈ wsX10_wisest := by decide +kernel
theorem LX10_wisest_I_X2 : Cond.initialized RX2 ∈ wsX10_wisest := by decide +kernel
theorem LX10_wisest_N_X2_caseCount : Cond.instanceMethod yX2_caseCount ∈ wsX10_wisest := by decide +kernel
theorem LX10_wisest_N_X2_leftBehind : Cond.instanceMethod yX2_leftBehind ∈ wsX10_wisest := by decide +kernel
theorem LX10_wisest_N_X2_wisestGuess : Cond.instanceMethod yX2_wisestGuess ∈ wsX10_wisest := by decide +kernel
theorem inX10_wisest_X10 : ∀ w ∈ u_ws RX10 TX10 9, w ∈ wsX10_wisest := by decide +kernel
set_option maxHeartbeats 4000000 in
set_option maxRecDepth 100000 in
theorem bkX10_wisest_11 {l : Launch} {dC : Nat → ClassId} {dI : Nat → Nat → Nat} {cB cI cJ cZ cS : ClassId} {a b b2 c0 : Nat → Nat} {rg sl : Nat → Option Nat} {as : List Value} {r : Int32} {s' : XS} (s : XS) (x1 : Int32) (hB : kX10_wisest_11 s x1 = some (r, s')) : BlkI l yX10_wisest wsX10_wisest ({ frames := 3, cells := 0, slots := 0, locals := 70 }) cX10_wisest 3 (some .int) (dC, dI) (tysA cB cI cJ cZ cS) as 11 (wX cB cI cJ cZ cS a b b2 c0 rg sl s) [(0, .ref (c0 0)), (1, .int x1)] [] (fun x u => x = r ∧ u = (wX cB cI cJ cZ cS a b b2 c0 rg sl s')) := by
  intro p e s0 m below meth c A E H locs ls hP hD hS hl
  obtain ⟨C, hr, hlocks, hA, hK, hN⟩ := id E
  obtain ⟨hx, hb, hml, hown, hts⟩ := id C
  unfold kX10_wisest_11 at hB
  refine lv_aload_n hx hb dX10_wisest_11 rfl (lv_at hl 0 rfl) ?_
  refine q_get (v := .ref (a 36)) C inX10_wisest_X10 hK hP 0 rfl rfl 7 (by decide) rfl LX10_wisest_63 rfl dX10_wisest_12 ?_
  refine lv_aload_n hx hb dX10_wisest_15 rfl (lv_at hl 0 rfl) ?_
  refine q_get (v := .ref (b 0)) C inX10_wisest_X10 hK hP 0 rfl rfl 3 (by decide) rfl LX10_wisest_35 rfl dX10_wisest_16 ?_
  obtain ⟨q_, s1, hc, hB⟩ := bindI_inv hB
  refine q_goi (wr := ((wG cZ cS a b b2 c0 rg sl s.g) ++ (wD cI b2 s.t))) (va_runVN (As := [.ref (b 0)]) (rest := []) C (ckX2_caseCount hc _) ⟨va_cnB 1 hts gX10_wisest_X2_caseCount_n196 rfl rfl rfl (hN _ nwM_X10_196 rfl) (hts _ LX10_wisest_I_X2) (by decide +kernel) ⟨Nat.le_of_ble_eq_true rfl, Nat.le_of_ble_eq_true rfl⟩, hts _ LX10_wisest_N_X2_caseCount, hts _ LX10_wisest_E_X2_caseCount⟩ (q_preV hK hP (ci := 2) (q0 := 53) rfl rfl rfl (q_pre hN hK hP hD [11, 12, 13, 14, 15, 16, 17, 18, 19, 20, 21, 22, 23, 24, 25, 26, 27, 28, 29, 30, 31, 32, 33, 34, 35, 36, 37, 38, 39, 40, 41, 42, 43, 44, 45, 46, 47, 48, 49, 50, 51, 52, 53, 54, 55, 56, 57, 58, 59, 60, 61, 62, 63] rfl (by decide))) rfl rfl hl.1 rfl (lv_room (Nat.le_of_ble_eq_true rfl)) dX10_wisest_19 ⟨Nat.le_of_ble_eq_true rfl, Nat.le_of_ble_eq_true rfl⟩) hP hD hS hA [11, 12, 13, 14, 15, 16, 17, 18, 19, 20, 21, 22, 23, 24, 25, 26, 27, 28, 29, 30, 31, 32, 33, 34, 35, 36, 37, 38, 39, 40, 41, 42, 43, 44, 45, 46, 47, 48, 49, 50, 51, 52, 53, 54, 55, 56, 57, 58, 59, 60, 61, 62, 63] [0, 1, 2, 3, 4, 5, 6, 7, 8, 9, 10] rfl rfl (by decide) (by decide) (fun r2 w1 H locs hw hP hD hS => ?_)
  obtain ⟨hq_, hw⟩ := hw; subst hw; subst hq_
  obtain ⟨s3, hs4, hB⟩ := letS_inv hB
  have hP : va_P (dC, dI) vwCl (wX cB cI cJ cZ cS a b b2 c0 rg sl s3) H := by subst hs4; exact hP
  have hD : va_D A (wX cB cI cJ cZ cS a b b2 c0 rg sl s3) := by subst hs4; exact hD
  refine lv_if_ne (tgt := 28) hx hb dX10_wisest_22 (by decide) (fun c5 => ?_) (fun c5 => ?_)
  · have hB := if_n hB c5
    refine lv_aload_n hx hb dX10_wisest_28 rfl (lv_at hl 0 rfl) ?_
    refine q_get (v := .ref (a 36)) C inX10_wisest_X10 hK hP 0 rfl rfl 7 (by decide) rfl LX10_wisest_63 rfl dX10_wisest_29 ?_
    refine lv_aload_n hx hb dX10_wisest_32 rfl (lv_at hl 0 rfl) ?_
    refine q_get (v := .ref (b 0)) C inX10_wisest_X10 hK hP 0 rfl rfl 3 (by decide) rfl LX10_wisest_35 rfl dX10_wisest_33 ?_
    obtain ⟨q_, s6, hc, hB⟩ := bindI_inv hB
    refine q_goi (wr := ((wG cZ cS a b b2 c0 rg sl s3.g) ++ (wD cI b2 s3.t))) (va_runVN (As := [.ref (b 0)]) (rest := []) C (ckX2_wisestGuess hc _) ⟨va_cnB 1 hts gX10_wisest_X2_wisestGuess_n218 rfl rfl rfl (hN _ nwM_X10_218 rfl) (hts _ LX10_wisest_I_X2) (by decide +kernel) ⟨Nat.le_of_ble_eq_true rfl, Nat.le_of_ble_eq_true rfl⟩, hts _ LX10_wisest_N_X2_wisestGuess, hts _ LX10_wisest_E_X2_wisestGuess⟩ (q_preV hK hP (ci := 2) (q0 := 53) rfl rfl rfl (q_pre hN hK hP hD [11, 12, 13, 14, 15, 16, 17, 18, 19, 20, 21, 22, 23, 24, 25, 26, 27, 28, 29, 30, 31, 32, 33, 34, 35, 36, 37, 38, 39, 40, 41, 42, 43, 44, 45, 46, 47, 48, 49, 50, 51, 52, 53, 54, 55, 56, 57, 58, 59, 60, 61, 62, 63] rfl (by decide))) rfl rfl hl.1 rfl (lv_room (Nat.le_of_ble_eq_true rfl)) dX10_wisest_36 ⟨Nat.le_of_ble_eq_true rfl, Nat.le_of_ble_eq_true rfl⟩) hP hD hS hA [11, 12, 13, 14, 15, 16, 17, 18, 19, 20, 21, 22, 23, 24, 25, 26, 27, 28, 29, 30, 31, 32, 33, 34, 35, 36, 37, 38, 39, 40, 41, 42, 43, 44, 45, 46, 47, 48, 49, 50, 51, 52, 53, 54, 55, 56, 57, 58, 59, 60, 61, 62, 63] [0, 1, 2, 3, 4, 5, 6, 7, 8, 9, 10] rfl rfl (by decide) (by decide) (fun r7 w1 H locs hw hP hD hS => ?_)
    obtain ⟨hq_, hw⟩ := hw; subst hw; subst hq_
    obtain ⟨s8, hs9, hB⟩ := letS_inv hB
    have hP : va_P (dC, dI) vwCl (wX cB cI cJ cZ cS a b b2 c0 rg sl s8) H := by subst hs9; exact hP
    have hD : va_D A (wX cB cI cJ cZ cS a b b2 c0 rg sl s8) := by subst hs9; exact hD
    refine lv_istore_n (lv' := [(2, .int r7), (0, .ref (c0 0)), (1, .int x1)]) hx hb dX10_wisest_39 rfl hl (by decide) rfl (fun ls hl => ?_)
    refine lv_iload_n hx hb dX10_wisest_40 rfl (lv_at hl 2 rfl) ?_
    refine lv_if_ne (tgt := 48) hx hb dX10_wisest_41 (by decide) (fun c10 => ?_) (fun c10 => ?_)
    · have hB := if_n hB c10
      refine lv_aload_n hx hb dX10_wisest_48 rfl (lv_at hl 1 rfl) ?_
      refine q_get (v := .ref (a 36)) C inX10_wisest_X10 hK hP 0 rfl rfl 7 (by decide) rfl LX10_wisest_63 rfl dX10_wisest_49 ?_
      refine lv_aload_n hx hb dX10_wisest_52 rfl (lv_at hl 1 rfl) ?_
      refine q_get (v := .ref (b 0)) C inX10_wisest_X10 hK hP 0 rfl rfl 3 (by decide) rfl LX10_wisest_35 rfl dX10_wisest_53 ?_
      refine lv_iload_n hx hb dX10_wisest_56 rfl (lv_at hl 0 rfl) ?_
      obtain ⟨q_, s11, hc, hB⟩ := bindI_inv hB
      refine q_goi (wr := ((wG cZ cS a b b2 c0 rg sl s8.g) ++ (wD cI b2 s8.t))) (va_runVN (As := [.ref (b 0), .int r7]) (rest := []) C (ckX2_leftBehind hc _) ⟨va_cnB 2 hts gX10_wisest_X2_leftBehind_n215 rfl rfl rfl (hN _ nwM_X10_215 rfl) (hts _ LX10_wisest_I_X2) (by decide +kernel) ⟨Nat.le_of_ble_eq_true rfl, Nat.le_of_ble_eq_true rfl⟩, hts _ LX10_wisest_N_X2_leftBehind, hts _ LX10_wisest_E_X2_leftBehind⟩ (q_preV hK hP (ci := 2) (q0 := 53) rfl rfl rfl (q_pre hN hK hP hD [11, 12, 13, 14, 15, 16, 17, 18, 19, 20, 21, 22, 23, 24, 25, 26, 27, 28, 29, 30, 31, 32, 33, 34, 35, 36, 37, 38, 39, 40, 41, 42, 43, 44, 45, 46, 47, 48, 49, 50, 51, 52, 53, 54, 55, 56, 57, 58, 59, 60, 61, 62, 63] rfl (by decide))) rfl rfl hl.1 rfl (lv_room (Nat.le_of_ble_eq_true rfl)) dX10_wisest_57 ⟨Nat.le_of_ble_eq_true rfl, Nat.le_of_ble_eq_true rfl⟩) hP hD hS hA [11, 12, 13, 14, 15, 16, 17, 18, 19, 20, 21, 22, 23, 24, 25, 26, 27, 28, 29, 30, 31, 32, 33, 34, 35, 36, 37, 38, 39, 40, 41, 42, 43, 44, 45, 46, 47, 48, 49, 50, 51, 52, 53, 54, 55, 56, 57, 58, 59, 60, 61, 62, 63] [0, 1, 2, 3, 4, 5, 6, 7, 8, 9, 10] rfl rfl (by decide) (by decide) (fun r12 w1 H locs hw hP hD hS => ?_)
      obtain ⟨hq_, hw⟩ := hw; subst hw; subst hq_
      obtain ⟨s13, hs14, hB⟩ := letS_inv hB
      have hP : va_P (dC, dI) vwCl (wX cB cI cJ cZ cS a b b2 c0 rg sl s13) H := by subst hs14; exact hP
      have hD : va_D A (wX cB cI cJ cZ cS a b b2 c0 rg sl s13) := by subst hs14; exact hD
      exact q_iret C hr hlocks hK hP hD hS (Nat.le_of_ble_eq_true rfl) (Nat.le_of_ble_eq_true rfl) dX10_wisest_60 (by cases hB; exact ⟨rfl, rfl⟩)
    · have hB := if_p hB c10
      refine lv_iload_n hx hb dX10_wisest_44 rfl (lv_at hl 0 rfl) ?_
      refine lv_goto (tgt := 60) hx hb dX10_wisest_45 (by decide) ?_
      exact q_iret C hr hlocks hK hP hD hS (Nat.le_of_ble_eq_true rfl) (Nat.le_of_ble_eq_true rfl) dX10_wisest_60 (by cases hB; exact ⟨rfl, rfl⟩)
  · have hB := if_p hB c5
    refine lv_bipush (v := (-2)) hx hb dX10_wisest_25 (by decide) ?_
    exact q_iret C hr hlocks hK hP hD hS (Nat.le_of_ble_eq_true rfl) (Nat.le_of_ble_eq_true rfl) dX10_wisest_27 (by cases hB; exact ⟨rfl, rfl⟩)
set_option maxHeartbeats 4000000 in
set_option maxRecDepth 100000 in
theorem bkX10_wisest {l : Launch} {dC : Nat → ClassId} {dI : Nat → Nat → Nat} {cB cI cJ cZ cS : ClassId} {a b b2 c0 : Nat → Nat} {rg sl : Nat → Option Nat} {as : List Value} {r : Int32} {s' : XS} (s : XS) (x1 : Int32) (hB : kX10_wisest s x1 = some (r, s')) : BlkI l yX10_wisest wsX10_wisest ({ frames := 3, cells := 0, slots := 0, locals := 70 }) cX10_wisest 3 (some .int) (dC, dI) (tysA cB cI cJ cZ cS) as 0 (wX cB cI cJ cZ cS a b b2 c0 rg sl s) [(0, .ref (c0 0)), (1, .int x1)] [] (fun x u => x = r ∧ u = (wX cB cI cJ cZ cS a b b2 c0 rg sl s')) := by
  intro p e s0 m below meth c A E H locs ls hP hD hS hl
  obtain ⟨C, hr, hlocks, hA, hK, hN⟩ := id E
  obtain ⟨hx, hb, hml, hown, hts⟩ := id C
  unfold kX10_wisest at hB
  refine lv_iload_n hx hb dX10_wisest_0 rfl (lv_at hl 1 rfl) ?_
  refine lv_if_eq (tgt := 11) hx hb dX10_wisest_1 (by decide) (fun c1 => ?_) (fun c1 => ?_)
  · have hB := if_p hB c1
    exact bkX10_wisest_11 _ _ hB p e s0 m below meth c A E H locs ls hP hD hS (lv_sub hl [0, 1] rfl)
  · have hB := if_n hB c1
    refine lv_iload_n hx hb dX10_wisest_4 rfl (lv_at hl 1 rfl) ?_
    refine lv_iconst (v := 1) hx hb dX10_wisest_5 (by decide) ?_
    refine lv_icmp_eq (tgt := 11) hx hb dX10_wisest_6 (by decide) (fun c2 => ?_) (fun c2 => ?_)
    · have hB := if_p hB c2
      exact bkX10_wisest_11 _ _ hB p e s0 m below meth c A E H locs ls hP hD hS (lv_sub hl [0, 1] rfl)
    · have hB := if_n hB c2
      refine lv_iconst (v := (-1)) hx hb dX10_wisest_9 (by decide) ?_
      exact q_iret C hr hlocks hK hP hD hS (Nat.le_of_ble_eq_true rfl) (Nat.le_of_ble_eq_true rfl) dX10_wisest_10 (by cases hB; exact ⟨rfl, rfl⟩)
theorem ckX10_wisest {l : Launch} {dC : Nat → ClassId} {dI : Nat → Nat → Nat} {cB cI cJ cZ cS : ClassId} {a b b2 c0 : Nat → Nat} {rg sl : Nat → Option Nat} {r : Int32} {s' : XS} {s : XS} {x1 : Int32} (hB : kX10_wisest s x1 = some (r, s')) : CI l yX10_wisest wsX10_wisest ({ frames := 3, cells := 0, slots := 0, locals := 70 }) (dC, dI) (tysA cB cI cJ cZ cS) (wX cB cI cJ cZ cS a b b2 c0 rg sl s) [.ref (c0 0), .int x1] (fun x u => x = r ∧ u = (wX cB cI cJ cZ cS a b b2 c0 rg sl s')) :=
  CI_of (cc := cX10_wisest) (maxL := 3) (ret := (some .int)) (by decide) rfl (Nat.le_of_ble_eq_true rfl) (bkX10_wisest _ _ hB)
