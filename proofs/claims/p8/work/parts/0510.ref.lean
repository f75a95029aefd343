theorem ggX11_fillsChances_X11_copies : GoodIn wsX11_fillsChances wsX11_copies := gi_sub (fun w h => List.mem_cons_of_mem _ (List.mem_append_left _ (List.mem_append_right _ (List.mem_append_left _ h)))) gd_wsX11_copies
set_option maxRecDepth 20000 in
theorem gX11_fillsChances_X11_copies : GoodIn wsX11_fillsChances (wsV RX11 352 RX11 yX11_copies wsX11_copies) := goodIn_app (goodIn_r _ [2, 3, 4, 5] (by decide +kernel) (by decide +kernel)) ggX11_fillsChances_X11_copies
theorem ggX11_fillsChances_X11_guesses : GoodIn wsX11_fillsChances wsX11_guesses := gi_sub (fun w h => List.mem_cons_of_mem _ (List.mem_append_left _ (List.mem_append_right _ (List.mem_append_right _ (List.mem_append_left _ h))))) gd_wsX11_guesses
set_option maxRecDepth 20000 in
theorem gX11_fillsChances_X11_guesses : GoodIn wsX11_fillsChances (wsV RX11 285 RX11 yX11_guesses wsX11_guesses) := goodIn_app (goodIn_r _ [6, 7, 8, 5] (by decide +kernel) (by decide +kernel)) ggX11_fillsChances_X11_guesses
theorem ggX11_fillsChances_X11_chanceOf : GoodIn wsX11_fillsChances wsX11_chanceOf := gi_sub (fun w h => List.mem_cons_of_mem _ (List.mem_append_left _ (List.mem_append_right _ (List.mem_append_right _ (List.mem_append_right _ h))))) gd_wsX11_chanceOf
set_option maxRecDepth 20000 in
theorem gX11_fillsChances_X11_chanceOf : GoodIn wsX11_fillsChances (wsV RX11 392 RX11 yX11_chanceOf wsX11_chanceOf) := goodIn_app (goodIn_r _ [9, 10, 11, 5] (by decide +kernel) (by decide +kernel)) ggX11_fillsChances_X11_chanceOf
theorem dX11_fillsChances_0 : decode cX11_fillsChances 0 = .ok (.aload_n 0, 1) := dc1_42 (by decide +kernel)
theorem dX11_fillsChances_1 : decode cX11_fillsChances 1 = .ok (.invokevirtual 352, 3) := dcw_182 (by decide +kernel)
theorem dX11_fillsChances_4 : decode cX11_fillsChances 4 = .ok (.iconst 0, 1) := dc1_3 (by decide +kernel)
theorem dX11_fillsChances_5 : decode cX11_fillsChances 5 = .ok (.istore_n 1, 1) := dc1_60 (by decide +kernel)
theorem dX11_fillsChances_6 : decode cX11_fillsChances 6 = .ok (.iload_n 1, 1) := dc1_27 (by decide +kernel)
theorem dX11_fillsChances_7 : decode cX11_fillsChances 7 = .ok (.aload_n 0, 1) := dc1_42 (by decide +kernel)
theorem dX11_fillsChances_8 : decode cX11_fillsChances 8 = .ok (.invokevirtual 285, 3) := dcw_182 (by decide +kernel)
theorem dX11_fillsChances_11 : decode cX11_fillsChances 11 = .ok (.if_icmp .ge 20, 3) := dcs_162 (n := 20) (by decide +kernel)
theorem dX11_fillsChances_14 : decode cX11_fillsChances 14 = .ok (.aload_n 0, 1) := dc1_42 (by decide +kernel)
theorem dX11_fillsChances_15 : decode cX11_fillsChances 15 = .ok (.getfield 113, 3) := dcw_180 (by decide +kernel)
theorem dX11_fillsChances_18 : decode cX11_fillsChances 18 = .ok (.iload_n 1, 1) := dc1_27 (by decide +kernel)
theorem dX11_fillsChances_19 : decode cX11_fillsChances 19 = .ok (.aload_n 0, 1) := dc1_42 (by decide +kernel)
theorem dX11_fillsChances_20 : decode cX11_fillsChances 20 = .ok (.iload_n 1, 1) := dc1_27 (by decide +kernel)
theorem dX11_fillsChances_21 : decode cX11_fillsChances 21 = .ok (.invokevirtual 392, 3) := dcw_182 (by decide +kernel)
theorem dX11_fillsChances_24 : decode cX11_fillsChances 24 = .ok (.iastore, 1) := dc1_79 (by decide +kernel)
theorem dX11_fillsChances_25 : decode cX11_fillsChances 25 = .ok (.iinc 1 1, 3) := dc_iinc (m := 1) (by decide +kernel)
theorem dX11_fillsChances_28 : decode cX11_fillsChances 28 = .ok (.goto (-22), 3) := dcs_167 (n := 65514) (by decide +kernel)
theorem dX11_fillsChances_31 : decode cX11_fillsChances 31 = .ok (.return_, 1) := dc1_177 (by decide +kernel)
theorem dX11_isAhead_0 : decode cX11_isAhead 0 = .ok (.aload_n 0, 1) := dc1_42 (by decide +kernel)
theorem dX11_isAhead_1 : decode cX11_isAhead 1 = .ok (.getfield 113, 3) := dcw_180 (by decide +kernel)
theorem dX11_isAhead_4 : decode cX11_isAhead 4 = .ok (.iload_n 1, 1) := dc1_27 (by decide +kernel)
theorem dX11_isAhead_5 : decode cX11_isAhead 5 = .ok (.iaload, 1) := dc1_46 (by decide +kernel)
theorem dX11_isAhead_6 : decode cX11_isAhead 6 = .ok (.aload_n 0, 1) := dc1_42 (by decide +kernel)
theorem dX11_isAhead_7 : decode cX11_isAhead 7 = .ok (.getfield 113, 3) := dcw_180 (by decide +kernel)
theorem dX11_isAhead_10 : decode cX11_isAhead 10 = .ok (.iload_n 2, 1) := dc1_28 (by decide +kernel)
theorem dX11_isAhead_11 : decode cX11_isAhead 11 = .ok (.iaload, 1) := dc1_46 (by decide +kernel)
theorem dX11_isAhead_12 : decode cX11_isAhead 12 = .ok (.if_icmp .gt 23, 3) := dcs_163 (n := 23) (by decide +kernel)
theorem dX11_isAhead_15 : decode cX11_isAhead 15 = .ok (.aload_n 0, 1) := dc1_42 (by decide +kernel)
theorem dX11_isAhead_16 : decode cX11_isAhead 16 = .ok (.getfield 113, 3) := dcw_180 (by decide +kernel)
theorem dX11_isAhead_19 : decode cX11_isAhead 19 = .ok (.iload_n 1, 1) := dc1_27 (by decide +kernel)
theorem dX11_isAhead_20 : decode cX11_isAhead 20 = .ok (.iaload, 1) := dc1_46 (by decide +kernel)
theorem dX11_isAhead_21 : decode cX11_isAhead 21 = .ok (.aload_n 0, 1) := dc1_42 (by decide +kernel)
theorem dX11_isAhead_22 : decode cX11_isAhead 22 = .ok (.getfield 113, 3) := dcw_180 (by decide +kernel)
theorem dX11_isAhead_25 : decode cX11_isAhead 25 = .ok (.iload_n 2, 1) := dc1_28 (by decide +kernel)
theorem dX11_isAhead_26 : decode cX11_isAhead 26 = .ok (.iaload, 1) := dc1_46 (by decide +kernel)
theorem dX11_isAhead_27 : decode cX11_isAhead 27 = .ok (.if_icmp .ne 12, 3) := dcs_160 (n := 12) (by decide +kernel)
theorem dX11_isAhead_30 : decode cX11_isAhead 30 = .ok (.iload_n 1, 1) := dc1_27 (by decide +kernel)
theorem dX11_isAhead_31 : decode cX11_isAhead 31 = .ok (.iload_n 2, 1) := dc1_28 (by decide +kernel)
theorem dX11_isAhead_32 : decode cX11_isAhead 32 = .ok (.if_icmp .ge 7, 3) := dcs_162 (n := 7) (by decide +kernel)
theorem dX11_isAhead_35 : decode cX11_isAhead 35 = .ok (.iconst 1, 1) := dc1_4 (by decide +kernel)
theorem dX11_isAhead_36 : decode cX11_isAhead 36 = .ok (.goto 4, 3) := dcs_167 (n := 4) (by decide +kernel)
theorem dX11_isAhead_39 : decode cX11_isAhead 39 = .ok (.iconst 0, 1) := dc1_3 (by decide +kernel)
theorem dX11_isAhead_40 : decode cX11_isAhead 40 = .ok (.ireturn, 1) := dc1_172 (by decide +kernel)
theorem ggX11_rank_X11_isGuess : GoodIn wsX11_rank wsX11_isGuess := gi_sub (fun w h => List.mem_cons_of_mem _ (List.mem_append_left _ (List.mem_append_right _ (List.mem_append_left _ h)))) gd_wsX11_isGuess
set_option maxRecDepth 20000 in
theorem gX11_rank_X11_isGuess : GoodIn wsX11_rank (wsV RX11 367 RX11 yX11_isGuess wsX11_isGuess) := goodIn_app (goodIn_r _ [1, 2, 3, 4] (by decide +kernel) (by decide +kernel)) ggX11_rank_X11_isGuess
theorem ggX11_rank_X11_fillsChances : GoodIn wsX11_rank wsX11_fillsChances := gi_sub (fun w h => List.mem_cons_of_mem _ (List.mem_append_left _ (List.mem_append_right _ (List.mem_append_right _ (List.mem_append_left _ h))))) gd_wsX11_fillsChances
set_option maxRecDepth 20000 in
theorem gX11_rank_X11_fillsChances : GoodIn wsX11_rank (wsV RX11 404 RX11 yX11_fillsChances wsX11_fillsChances) := goodIn_app (goodIn_r _ [8, 9, 10, 4] (by decide +kernel) (by decide +kernel)) ggX11_rank_X11_fillsChances
theorem ggX11_rank_X11_isCase : GoodIn wsX11_rank wsX11_isCase := gi_sub (fun w h => List.mem_cons_of_mem _ (List.mem_append_left _ (List.mem_append_right _ (List.mem_append_right _ (List.mem_append_right _ (List.mem_append_left _ h)))))) gd_wsX11_isCase
set_option maxRecDepth 20000 in
theorem gX11_rank_X11_isCase : GoodIn wsX11_rank (wsV RX11 407 RX11 yX11_isCase wsX11_isCase) := goodIn_app (goodIn_r _ [11, 12, 13, 4] (by decide +kernel) (by decide +kernel)) ggX11_rank_X11_isCase
theorem ggX11_rank_X11_guesses : GoodIn wsX11_rank wsX11_guesses := gi_sub (fun w h => List.mem_cons_of_mem _ (List.mem_append_left _ (List.mem_append_right _ (List.mem_append_right _ (List.mem_append_right _ (List.mem_append_right _ (List.mem_append_left _ h))))))) gd_wsX11_guesses
set_option maxRecDepth 20000 in
theorem gX11_rank_X11_guesses : GoodIn wsX11_rank (wsV RX11 285 RX11 yX11_guesses wsX11_guesses) := goodIn_app (goodIn_r _ [5, 6, 7, 4] (by decide +kernel) (by decide +kernel)) ggX11_rank_X11_guesses
theorem ggX11_rank_X11_isAhead : GoodIn wsX11_rank wsX11_isAhead := gi_sub (fun w h => List.mem_cons_of_mem _ (List.mem_append_left _ (List.mem_append_right _ (List.mem_append_right _ (List.mem_append_right _ (List.mem_append_right _ (List.mem_append_right _ h))))))) gd_wsX11_isAhead
set_option maxRecDepth 20000 in
theorem gX11_rank_X11_isAhead : GoodIn wsX11_rank (wsV RX11 410 RX11 yX11_isAhead wsX11_isAhead) := goodIn_app (goodIn_r _ [14, 15, 16, 4] (by decide +kernel) (by decide +kernel)) ggX11_rank_X11_isAhead
theorem dX11_rank_0 : decode cX11_rank 0 = .ok (.aload_n 0, 1) := dc1_42 (by decide +kernel)
theorem dX11_rank_1 : decode cX11_rank 1 = .ok (.iload_n 1, 1) := dc1_27 (by decide +kernel)
theorem dX11_rank_2 : decode cX11_rank 2 = .ok (.invokevirtual 367, 3) := dcw_182 (by decide +kernel)
theorem dX11_rank_5 : decode cX11_rank 5 = .ok (.ifCond .ne 5, 3) := dcs_154 (n := 5) (by decide +kernel)
theorem dX11_rank_8 : decode cX11_rank 8 = .ok (.iconst (-1), 1) := dc1_2 (by decide +kernel)
theorem dX11_rank_9 : decode cX11_rank 9 = .ok (.ireturn, 1) := dc1_172 (by decide +kernel)
theorem dX11_rank_10 : decode cX11_rank 10 = .ok (.aload_n 0, 1) := dc1_42 (by decide +kernel)
theorem dX11_rank_11 : decode cX11_rank 11 = .ok (.invokevirtual 404, 3) := dcw_182 (by decide +kernel)
theorem dX11_rank_14 : decode cX11_rank 14 = .ok (.aload_n 0, 1) := dc1_42 (by decide +kernel)
theorem dX11_rank_15 : decode cX11_rank 15 = .ok (.iload_n 1, 1) := dc1_27 (by decide +kernel)
theorem dX11_rank_16 : decode cX11_rank 16 = .ok (.invokevirtual 407, 3) := dcw_182 (by decide +kernel)
theorem dX11_rank_19 : decode cX11_rank 19 = .ok (.ifCond .ne 6, 3) := dcs_154 (n := 6) (by decide +kernel)
theorem dX11_rank_22 : decode cX11_rank 22 = .ok (.bipush (-2), 2) := dcb_16 (n := 254) (by decide +kernel)
theorem dX11_rank_24 : decode cX11_rank 24 = .ok (.ireturn, 1) := dc1_172 (by decide +kernel)
theorem dX11_rank_25 : decode cX11_rank 25 = .ok (.iconst 0, 1) := dc1_3 (by decide +kernel)
theorem dX11_rank_26 : decode cX11_rank 26 = .ok (.istore_n 2, 1) := dc1_61 (by decide +kernel)
theorem dX11_rank_27 : decode cX11_rank 27 = .ok (.iconst 0, 1) := dc1_3 (by decide +kernel)
theorem dX11_rank_28 : decode cX11_rank 28 = .ok (.istore_n 3, 1) := dc1_62 (by decide +kernel)
theorem dX11_rank_29 : decode cX11_rank 29 = .ok (.iload_n 3, 1) := dc1_29 (by decide +kernel)
theorem dX11_rank_30 : decode cX11_rank 30 = .ok (.aload_n 0, 1) := dc1_42 (by decide +kernel)
theorem dX11_rank_31 : decode cX11_rank 31 = .ok (.invokevirtual 285, 3) := dcw_182 (by decide +kernel)
theorem dX11_rank_34 : decode cX11_rank 34 = .ok (.if_icmp .ge 21, 3) := dcs_162 (n := 21) (by decide +kernel)
theorem dX11_rank_37 : decode cX11_rank 37 = .ok (.aload_n 0, 1) := dc1_42 (by decide +kernel)
theorem dX11_rank_38 : decode cX11_rank 38 = .ok (.iload_n 3, 1) := dc1_29 (by decide +kernel)
theorem dX11_rank_39 : decode cX11_rank 39 = .ok (.iload_n 1, 1) := dc1_27 (by decide +kernel)
theorem dX11_rank_40 : decode cX11_rank 40 = .ok (.invokevirtual 410, 3) := dcw_182 (by decide +kernel)
theorem dX11_rank_43 : decode cX11_rank 43 = .ok (.ifCond .eq 6, 3) := dcs_153 (n := 6) (by decide +kernel)
theorem dX11_rank_46 : decode cX11_rank 46 = .ok (.iinc 2 1, 3) := dc_iinc (m := 1) (by decide +kernel)
theorem dX11_rank_49 : decode cX11_rank 49 = .ok (.iinc 3 1, 3) := dc_iinc (m := 1) (by decide +kernel)
theorem dX11_rank_52 : decode cX11_rank 52 = .ok (.goto (-23), 3) := dcs_167 (n := 65513) (by decide +kernel)
theorem dX11_rank_55 : decode cX11_rank 55 = .ok (.iload_n 2, 1) := dc1_28 (by decide +kernel)
theorem dX11_rank_56 : decode cX11_rank 56 = .ok (.ireturn, 1) := dc1_172 (by decide +kernel)
theorem ggX11_ranked_X11_in : GoodIn wsX11_ranked wsX11_in := gi_sub (fun w h => List.mem_cons_of_mem _ (List.mem_append_left _ (List.mem_append_right _ (List.mem_append_left _ h)))) gd_wsX11_in
set_option maxRecDepth 20000 in
theorem gX11_ranked_X11_in : GoodIn wsX11_ranked (va_wsS RX11 281 yX11_in wsX11_in) := goodIn_app (goodIn_of _ (by decide +kernel)) ggX11_ranked_X11_in
theorem ggX11_ranked_X11_fillsChances : GoodIn wsX11_ranked wsX11_fillsChances := gi_sub (fun w h => List.mem_cons_of_mem _ (List.mem_append_left _ (List.mem_append_right _ (List.mem_append_right _ (List.mem_append_left _ h))))) gd_wsX11_fillsChances
set_option maxRecDepth 20000 in
theorem gX11_ranked_X11_fillsChances : GoodIn wsX11_ranked (wsV RX11 404 RX11 yX11_fillsChances wsX11_fillsChances) := goodIn_app (goodIn_r _ [5, 6, 7, 4] (by decide +kernel) (by decide +kernel)) ggX11_ranked_X11_fillsChances
theorem ggX11_ranked_X11_guesses : GoodIn wsX11_ranked wsX11_guesses := gi_sub (fun w h => List.mem_cons_of_mem _ (List.mem_append_left _ (List.mem_append_right _ (List.mem_append_right _ (List.mem_append_right _ (List.mem_append_left _ h)))))) gd_wsX11_guesses
set_option maxRecDepth 20000 in
theorem gX11_ranked_X11_guesses : GoodIn wsX11_ranked (wsV RX11 285 RX11 yX11_guesses wsX11_guesses) := goodIn_app (goodIn_r _ [8, 9, 10, 4] (by decide +kernel) (by decide +kernel)) ggX11_ranked_X11_guesses
theorem ggX11_ranked_X11_isAhead : GoodIn wsX11_ranked wsX11_isAhead := gi_sub (fun w h => List.mem_cons_of_mem _ (List.mem_append_left _ (List.mem_append_right _ (List.mem_append_right _ (List.mem_append_right _ (List.mem_append_right _ h)))))) gd_wsX11_isAhead
set_option maxRecDepth 20000 in
theorem gX11_ranked_X11_isAhead : GoodIn wsX11_ranked (wsV RX11 410 RX11 yX11_isAhead wsX11_isAhead) := goodIn_app (goodIn_r _ [11, 12, 13, 4] (by decide +kernel) (by decide +kernel)) ggX11_ranked_X11_isAhead
theorem dX11_ranked_0 : decode cX11_ranked 0 = .ok (.iload_n 1, 1) := dc1_27 (by decide +kernel)
theorem dX11_ranked_1 : decode cX11_ranked 1 = .ok (.iconst 0, 1) := dc1_3 (by decide +kernel)
theorem dX11_ranked_2 : decode cX11_ranked 2 = .ok (.bipush 19, 2) := dcb_16 (n := 19) (by decide +kernel)
theorem dX11_ranked_4 : decode cX11_ranked 4 = .ok (.invokestatic 281, 3) := dcw_184 (by decide +kernel)
theorem dX11_ranked_7 : decode cX11_ranked 7 = .ok (.ifCond .ne 5, 3) := dcs_154 (n := 5) (by decide +kernel)
theorem dX11_ranked_10 : decode cX11_ranked 10 = .ok (.iconst (-1), 1) := dc1_2 (by decide +kernel)
theorem dX11_ranked_11 : decode cX11_ranked 11 = .ok (.ireturn, 1) := dc1_172 (by decide +kernel)
theorem dX11_ranked_12 : decode cX11_ranked 12 = .ok (.aload_n 0, 1) := dc1_42 (by decide +kernel)
theorem dX11_ranked_13 : decode cX11_ranked 13 = .ok (.invokevirtual 404, 3) := dcw_182 (by decide +kernel)
theorem dX11_ranked_16 : decode cX11_ranked 16 = .ok (.iconst (-1), 1) := dc1_2 (by decide +kernel)
theorem dX11_ranked_17 : decode cX11_ranked 17 = .ok (.istore_n 2, 1) := dc1_61 (by decide +kernel)
theorem dX11_ranked_18 : decode cX11_ranked 18 = .ok (.iconst 0, 1) := dc1_3 (by decide +kernel)
theorem dX11_ranked_19 : decode cX11_ranked 19 = .ok (.istore_n 3, 1) := dc1_62 (by decide +kernel)
theorem dX11_ranked_20 : decode cX11_ranked 20 = .ok (.iload_n 3, 1) := dc1_29 (by decide +kernel)
theorem dX11_ranked_21 : decode cX11_ranked 21 = .ok (.iload_n 1, 1) := dc1_27 (by decide +kernel)
theorem dX11_ranked_22 : decode cX11_ranked 22 = .ok (.if_icmp .gt 84, 3) := dcs_163 (n := 84) (by decide +kernel)
theorem dX11_ranked_25 : decode cX11_ranked 25 = .ok (.iconst (-1), 1) := dc1_2 (by decide +kernel)
theorem dX11_ranked_26 : decode cX11_ranked 26 = .ok (.istore 4, 2) := dcu_54 (by decide +kernel)
theorem dX11_ranked_28 : decode cX11_ranked 28 = .ok (.iconst 0, 1) := dc1_3 (by decide +kernel)
theorem dX11_ranked_29 : decode cX11_ranked 29 = .ok (.istore 5, 2) := dcu_54 (by decide +kernel)
theorem dX11_ranked_31 : decode cX11_ranked 31 = .ok (.iload 5, 2) := dcu_21 (by decide +kernel)
theorem dX11_ranked_33 : decode cX11_ranked 33 = .ok (.aload_n 0, 1) := dc1_42 (by decide +kernel)
theorem dX11_ranked_34 : decode cX11_ranked 34 = .ok (.invokevirtual 285, 3) := dcw_182 (by decide +kernel)
theorem dX11_ranked_37 : decode cX11_ranked 37 = .ok (.if_icmp .ge 53, 3) := dcs_162 (n := 53) (by decide +kernel)
theorem dX11_ranked_40 : decode cX11_ranked 40 = .ok (.aload_n 0, 1) := dc1_42 (by decide +kernel)
theorem dX11_ranked_41 : decode cX11_ranked 41 = .ok (.getfield 113, 3) := dcw_180 (by decide +kernel)
theorem dX11_ranked_44 : decode cX11_ranked 44 = .ok (.iload 5, 2) := dcu_21 (by decide +kernel)
theorem dX11_ranked_46 : decode cX11_ranked 46 = .ok (.iaload, 1) := dc1_46 (by decide +kernel)
theorem dX11_ranked_47 : decode cX11_ranked 47 = .ok (.ifCond .le 37, 3) := dcs_158 (n := 37) (by decide +kernel)
theorem dX11_ranked_50 : decode cX11_ranked 50 = .ok (.iload_n 2, 1) := dc1_28 (by decide +kernel)
theorem dX11_ranked_51 : decode cX11_ranked 51 = .ok (.ifCond .lt 13, 3) := dcs_155 (n := 13) (by decide +kernel)
theorem dX11_ranked_54 : decode cX11_ranked 54 = .ok (.aload_n 0, 1) := dc1_42 (by decide +kernel)
theorem dX11_ranked_55 : decode cX11_ranked 55 = .ok (.iload_n 2, 1) := dc1_28 (by decide +kernel)
theorem dX11_ranked_56 : decode cX11_ranked 56 = .ok (.iload 5, 2) := dcu_21 (by decide +kernel)
theorem dX11_ranked_58 : decode cX11_ranked 58 = .ok (.invokevirtual 410, 3) := dcw_182 (by decide +kernel)
theorem dX11_ranked_61 : decode cX11_ranked 61 = .ok (.ifCond .eq 23, 3) := dcs_153 (n := 23) (by decide +kernel)
theorem dX11_ranked_64 : decode cX11_ranked 64 = .ok (.iload 4, 2) := dcu_21 (by decide +kernel)
theorem dX11_ranked_66 : decode cX11_ranked 66 = .ok (.ifCond .lt 14, 3) := dcs_155 (n := 14) (by decide +kernel)
theorem dX11_ranked_69 : decode cX11_ranked 69 = .ok (.aload_n 0, 1) := dc1_42 (by decide +kernel)
theorem dX11_ranked_70 : decode cX11_ranked 70 = .ok (.iload 5, 2) := dcu_21 (by decide +kernel)
theorem dX11_ranked_72 : decode cX11_ranked 72 = .ok (.iload 4, 2) := dcu_21 (by decide +kernel)
theorem dX11_ranked_74 : decode cX11_ranked 74 = .ok (.invokevirtual 410, 3) := dcw_182 (by decide +kernel)
theorem dX11_ranked_77 : decode cX11_ranked 77 = .ok (.ifCond .eq 7, 3) := dcs_153 (n := 7) (by decide +kernel)
theorem dX11_ranked_80 : decode cX11_ranked 80 = .ok (.iload 5, 2) := dcu_21 (by decide +kernel)
theorem dX11_ranked_82 : decode cX11_ranked 82 = .ok (.istore 4, 2) := dcu_54 (by decide +kernel)
theorem dX11_ranked_84 : decode cX11_ranked 84 = .ok (.iinc 5 1, 3) := dc_iinc (m := 1) (by decide +kernel)
theorem dX11_ranked_87 : decode cX11_ranked 87 = .ok (.goto (-56), 3) := dcs_167 (n := 65480) (by decide +kernel)
theorem dX11_ranked_90 : decode cX11_ranked 90 = .ok (.iload 4, 2) := dcu_21 (by decide +kernel)
theorem dX11_ranked_92 : decode cX11_ranked 92 = .ok (.ifCond .ge 5, 3) := dcs_156 (n := 5) (by decide +kernel)
theorem dX11_ranked_95 : decode cX11_ranked 95 = .ok (.iconst (-1), 1) := dc1_2 (by decide +kernel)
theorem dX11_ranked_96 : decode cX11_ranked 96 = .ok (.ireturn, 1) := dc1_172 (by decide +kernel)
theorem dX11_ranked_97 : decode cX11_ranked 97 = .ok (.iload 4, 2) := dcu_21 (by decide +kernel)
theorem dX11_ranked_99 : decode cX11_ranked 99 = .ok (.istore_n 2, 1) := dc1_61 (by decide +kernel)
theorem dX11_ranked_100 : decode cX11_ranked 100 = .ok (.iinc 3 1, 3) := dc_iinc (m := 1) (by decide +kernel)
theorem dX11_ranked_103 : decode cX11_ranked 103 = .ok (.goto (-83), 3) := dcs_167 (n := 65453) (by decide +kernel)
theorem dX11_ranked_106 : decode cX11_ranked 106 = .ok (.iload_n 2, 1) := dc1_28 (by decide +kernel)
theorem dX11_ranked_107 : decode cX11_ranked 107 = .ok (.ireturn, 1) := dc1_172 (by decide +kernel)
theorem ggX11_share_X11_isWave : GoodIn wsX11_share wsX11_isWave := gi_sub (fun w h => List.mem_cons_of_mem _ (List.mem_append_left _ (List.mem_append_right _ (List.mem_append_left _ h)))) gd_wsX11_isWave
set_option maxRecDepth 20000 in
theorem gX11_share_X11_isWave : GoodIn wsX11_share (wsV RX11 349 RX11 yX11_isWave wsX11_isWave) := goodIn_app (goodIn_r _ [3, 4, 5, 6] (by decide +kernel) (by decide +kernel)) ggX11_share_X11_isWave
theorem ggX11_share_X11_isThing : GoodIn wsX11_share wsX11_isThing := gi_sub (fun w h => List.mem_cons_of_mem _ (List.mem_append_left _ (List.mem_append_right _ (List.mem_append_right _ (List.mem_append_left _ h))))) gd_wsX11_isThing
set_option maxRecDepth 20000 in
theorem gX11_share_X11_isThing : GoodIn wsX11_share (va_wsS RX11 355 yX11_isThing wsX11_isThing) := goodIn_app (goodIn_of _ (by decide +kernel)) ggX11_share_X11_isThing
theorem ggX11_share_X11_copies : GoodIn wsX11_share wsX11_copies := gi_sub (fun w h => List.mem_cons_of_mem _ (List.mem_append_left _ (List.mem_append_right _ (List.mem_append_right _ (List.mem_append_right _ (List.mem_append_left _ h)))))) gd_wsX11_copies
set_option maxRecDepth 20000 in
theorem gX11_share_X11_copies : GoodIn wsX11_share (wsV RX11 352 RX11 yX11_copies wsX11_copies) := goodIn_app (goodIn_r _ [9, 10, 11, 6] (by decide +kernel) (by decide +kernel)) ggX11_share_X11_copies
theorem ggX11_share_X11_mayBe : GoodIn wsX11_share wsX11_mayBe := gi_sub (fun w h => List.mem_cons_of_mem _ (List.mem_append_left _ (List.mem_append_right _ (List.mem_append_right _ (List.mem_append_right _ (List.mem_append_right _ (List.mem_append_left _ h))))))) gd_wsX11_mayBe
set_option maxRecDepth 20000 in
theorem gX11_share_X11_mayBe : GoodIn wsX11_share (wsV RX11 388 RX11 yX11_mayBe wsX11_mayBe) := goodIn_app (goodIn_r _ [12, 13, 14, 6] (by decide +kernel) (by decide +kernel)) ggX11_share_X11_mayBe
theorem ggX11_share_X11_oddsAt : GoodIn wsX11_share wsX11_oddsAt := gi_sub (fun w h => List.mem_cons_of_mem _ (List.mem_append_left _ (List.mem_append_right _ (List.mem_append_right _ (List.mem_append_right _ (List.mem_append_right _ (List.mem_append_right _ (List.mem_append_left _ h)))))))) gd_wsX11_oddsAt
set_option maxRecDepth 20000 in
theorem gX11_share_X11_oddsAt : GoodIn wsX11_share (wsV RX11 297 RX11 yX11_oddsAt wsX11_oddsAt) := goodIn_app (goodIn_r _ [15, 16, 17, 6] (by decide +kernel) (by decide +kernel)) ggX11_share_X11_oddsAt
theorem ggX11_share_X11_sumAt : GoodIn wsX11_share wsX11_sumAt := gi_sub (fun w h => List.mem_cons_of_mem _ (List.mem_append_left _ (List.mem_append_right _ (List.mem_append_right _ (List.mem_append_right _ (List.mem_append_right _ (List.mem_append_right _ (List.mem_append_right _ h)))))))) gd_wsX11_sumAt
set_option maxRecDepth 20000 in
theorem gX11_share_X11_sumAt : GoodIn wsX11_share (wsV RX11 395 RX11 yX11_sumAt wsX11_sumAt) := goodIn_app (goodIn_r _ [18, 19, 20, 6] (by decide +kernel) (by decide +kernel)) ggX11_share_X11_sumAt
theorem dX11_share_0 : decode cX11_share 0 = .ok (.aload_n 0, 1) := dc1_42 (by decide +kernel)
theorem dX11_share_1 : decode cX11_share 1 = .ok (.iload_n 1, 1) := dc1_27 (by decide +kernel)
theorem dX11_share_2 : decode cX11_share 2 = .ok (.invokevirtual 349, 3) := dcw_182 (by decide +kernel)
theorem dX11_share_5 : decode cX11_share 5 = .ok (.ifCond .eq 10, 3) := dcs_153 (n := 10) (by decide +kernel)
theorem dX11_share_8 : decode cX11_share 8 = .ok (.iload_n 2, 1) := dc1_28 (by decide +kernel)
theorem dX11_share_9 : decode cX11_share 9 = .ok (.invokestatic 355, 3) := dcw_184 (by decide +kernel)
theorem dX11_share_12 : decode cX11_share 12 = .ok (.ifCond .ne 5, 3) := dcs_154 (n := 5) (by decide +kernel)
theorem dX11_share_15 : decode cX11_share 15 = .ok (.iconst (-1), 1) := dc1_2 (by decide +kernel)
theorem dX11_share_16 : decode cX11_share 16 = .ok (.ireturn, 1) := dc1_172 (by decide +kernel)
theorem dX11_share_17 : decode cX11_share 17 = .ok (.aload_n 0, 1) := dc1_42 (by decide +kernel)
theorem dX11_share_18 : decode cX11_share 18 = .ok (.invokevirtual 352, 3) := dcw_182 (by decide +kernel)
theorem dX11_share_21 : decode cX11_share 21 = .ok (.aload_n 0, 1) := dc1_42 (by decide +kernel)
theorem dX11_share_22 : decode cX11_share 22 = .ok (.iload_n 1, 1) := dc1_27 (by decide +kernel)
theorem dX11_share_23 : decode cX11_share 23 = .ok (.iload_n 2, 1) := dc1_28 (by decide +kernel)
theorem dX11_share_24 : decode cX11_share 24 = .ok (.invokevirtual 388, 3) := dcw_182 (by decide +kernel)
theorem dX11_share_27 : decode cX11_share 27 = .ok (.ifCond .eq 12, 3) := dcs_153 (n := 12) (by decide +kernel)
theorem dX11_share_30 : decode cX11_share 30 = .ok (.aload_n 0, 1) := dc1_42 (by decide +kernel)
theorem dX11_share_31 : decode cX11_share 31 = .ok (.iload_n 1, 1) := dc1_27 (by decide +kernel)
theorem dX11_share_32 : decode cX11_share 32 = .ok (.iload_n 2, 1) := dc1_28 (by decide +kernel)
theorem dX11_share_33 : decode cX11_share 33 = .ok (.invokevirtual 297, 3) := dcw_182 (by decide +kernel)
theorem dX11_share_36 : decode cX11_share 36 = .ok (.goto 4, 3) := dcs_167 (n := 4) (by decide +kernel)
theorem dX11_share_39 : decode cX11_share 39 = .ok (.iconst 0, 1) := dc1_3 (by decide +kernel)
theorem dX11_share_40 : decode cX11_share 40 = .ok (.istore_n 3, 1) := dc1_62 (by decide +kernel)
theorem dX11_share_41 : decode cX11_share 41 = .ok (.iconst 0, 1) := dc1_3 (by decide +kernel)
theorem dX11_share_42 : decode cX11_share 42 = .ok (.istore 4, 2) := dcu_54 (by decide +kernel)
theorem dX11_share_44 : decode cX11_share 44 = .ok (.iload 4, 2) := dcu_21 (by decide +kernel)
theorem dX11_share_46 : decode cX11_share 46 = .ok (.aload_n 0, 1) := dc1_42 (by decide +kernel)
theorem dX11_share_47 : decode cX11_share 47 = .ok (.getfield 40, 3) := dcw_180 (by decide +kernel)
theorem dX11_share_50 : decode cX11_share 50 = .ok (.aload_n 0, 1) := dc1_42 (by decide +kernel)
theorem dX11_share_51 : decode cX11_share 51 = .ok (.getfield 215, 3) := dcw_180 (by decide +kernel)
theorem dX11_share_54 : decode cX11_share 54 = .ok (.iaload, 1) := dc1_46 (by decide +kernel)
theorem dX11_share_55 : decode cX11_share 55 = .ok (.if_icmp .ge 24, 3) := dcs_162 (n := 24) (by decide +kernel)
theorem dX11_share_58 : decode cX11_share 58 = .ok (.iload 4, 2) := dcu_21 (by decide +kernel)
theorem dX11_share_60 : decode cX11_share 60 = .ok (.iload_n 1, 1) := dc1_27 (by decide +kernel)
theorem dX11_share_61 : decode cX11_share 61 = .ok (.if_icmp .eq 12, 3) := dcs_159 (n := 12) (by decide +kernel)
theorem dX11_share_64 : decode cX11_share 64 = .ok (.iload_n 3, 1) := dc1_29 (by decide +kernel)
theorem dX11_share_65 : decode cX11_share 65 = .ok (.aload_n 0, 1) := dc1_42 (by decide +kernel)
theorem dX11_share_66 : decode cX11_share 66 = .ok (.iload 4, 2) := dcu_21 (by decide +kernel)
theorem dX11_share_68 : decode cX11_share 68 = .ok (.invokevirtual 395, 3) := dcw_182 (by decide +kernel)
theorem dX11_share_71 : decode cX11_share 71 = .ok (.imul, 1) := dc1_104 (by decide +kernel)
theorem dX11_share_72 : decode cX11_share 72 = .ok (.istore_n 3, 1) := dc1_62 (by decide +kernel)
theorem dX11_share_73 : decode cX11_share 73 = .ok (.iinc 4 1, 3) := dc_iinc (m := 1) (by decide +kernel)
theorem dX11_share_76 : decode cX11_share 76 = .ok (.goto (-32), 3) := dcs_167 (n := 65504) (by decide +kernel)
theorem dX11_share_79 : decode cX11_share 79 = .ok (.iload_n 3, 1) := dc1_29 (by decide +kernel)
theorem dX11_share_80 : decode cX11_share 80 = .ok (.ireturn, 1) := dc1_172 (by decide +kernel)
theorem ggX11_comesOver_X11_copies : GoodIn wsX11_comesOver wsX11_copies := gi_sub (fun w h => List.mem_cons_of_mem _ (List.mem_append_left _ (List.mem_append_right _ (List.mem_append_left _ h)))) gd_wsX11_copies
set_option maxRecDepth 20000 in
theorem gX11_comesOver_X11_copies : GoodIn wsX11_comesOver (wsV RX11 352 RX11 yX11_copies wsX11_copies) := goodIn_app (goodIn_r _ [2, 3, 4, 5] (by decide +kernel) (by decide +kernel)) ggX11_comesOver_X11_copies
theorem ggX11_comesOver_X11_bestFor : GoodIn wsX11_comesOver wsX11_bestFor := gi_sub (fun w h => List.mem_cons_of_mem _ (List.mem_append_left _ (List.mem_append_right _ (List.mem_append_right _ (List.mem_append_left _ h))))) gd_wsX11_bestFor
set_option maxRecDepth 20000 in
theorem gX11_comesOver_X11_bestFor : GoodIn wsX11_comesOver (wsV RX11 398 RX11 yX11_bestFor wsX11_bestFor) := goodIn_app (goodIn_r _ [6, 7, 8, 5] (by decide +kernel) (by decide +kernel)) ggX11_comesOver_X11_bestFor
theorem ggX11_comesOver_X11_goesBy : GoodIn wsX11_comesOver wsX11_goesBy := gi_sub (fun w h => List.mem_cons_of_mem _ (List.mem_append_left _ (List.mem_append_right _ (List.mem_append_right _ (List.mem_append_right _ h))))) gd_wsX11_goesBy
set_option maxRecDepth 20000 in
theorem gX11_comesOver_X11_goesBy : GoodIn wsX11_comesOver (wsV RX11 373 RX11 yX11_goesBy wsX11_goesBy) := goodIn_app (goodIn_r _ [9, 10, 11, 5] (by decide +kernel) (by decide +kernel)) ggX11_comesOver_X11_goesBy
theorem dX11_comesOver_0 : decode cX11_comesOver 0 = .ok (.aload_n 0, 1) := dc1_42 (by decide +kernel)
theorem dX11_comesOver_1 : decode cX11_comesOver 1 = .ok (.invokevirtual 352, 3) := dcw_182 (by decide +kernel)
theorem dX11_comesOver_4 : decode cX11_comesOver 4 = .ok (.iconst 0, 1) := dc1_3 (by decide +kernel)
theorem dX11_comesOver_5 : decode cX11_comesOver 5 = .ok (.istore 4, 2) := dcu_54 (by decide +kernel)
theorem dX11_comesOver_7 : decode cX11_comesOver 7 = .ok (.iload 4, 2) := dcu_21 (by decide +kernel)
theorem dX11_comesOver_9 : decode cX11_comesOver 9 = .ok (.iload_n 3, 1) := dc1_29 (by decide +kernel)
theorem dX11_comesOver_10 : decode cX11_comesOver 10 = .ok (.if_icmp .ge 47, 3) := dcs_162 (n := 47) (by decide +kernel)
theorem dX11_comesOver_13 : decode cX11_comesOver 13 = .ok (.aload_n 0, 1) := dc1_42 (by decide +kernel)
theorem dX11_comesOver_14 : decode cX11_comesOver 14 = .ok (.iload_n 1, 1) := dc1_27 (by decide +kernel)
theorem dX11_comesOver_15 : decode cX11_comesOver 15 = .ok (.invokevirtual 398, 3) := dcw_182 (by decide +kernel)
theorem dX11_comesOver_18 : decode cX11_comesOver 18 = .ok (.istore 5, 2) := dcu_54 (by decide +kernel)
theorem dX11_comesOver_20 : decode cX11_comesOver 20 = .ok (.iload 5, 2) := dcu_21 (by decide +kernel)
theorem dX11_comesOver_22 : decode cX11_comesOver 22 = .ok (.ifCond .ge 5, 3) := dcs_156 (n := 5) (by decide +kernel)
theorem dX11_comesOver_25 : decode cX11_comesOver 25 = .ok (.iconst 0, 1) := dc1_3 (by decide +kernel)
theorem dX11_comesOver_26 : decode cX11_comesOver 26 = .ok (.ireturn, 1) := dc1_172 (by decide +kernel)
theorem dX11_comesOver_27 : decode cX11_comesOver 27 = .ok (.aload_n 0, 1) := dc1_42 (by decide +kernel)
theorem dX11_comesOver_28 : decode cX11_comesOver 28 = .ok (.iload_n 1, 1) := dc1_27 (by decide +kernel)
theorem dX11_comesOver_29 : decode cX11_comesOver 29 = .ok (.iload 5, 2) := dcu_21 (by decide +kernel)
theorem dX11_comesOver_31 : decode cX11_comesOver 31 = .ok (.iload_n 2, 1) := dc1_28 (by decide +kernel)
theorem dX11_comesOver_32 : decode cX11_comesOver 32 = .ok (.invokevirtual 373, 3) := dcw_182 (by decide +kernel)
theorem dX11_comesOver_35 : decode cX11_comesOver 35 = .ok (.pop, 1) := dc1_87 (by decide +kernel)
theorem dX11_comesOver_36 : decode cX11_comesOver 36 = .ok (.aload_n 0, 1) := dc1_42 (by decide +kernel)
theorem dX11_comesOver_37 : decode cX11_comesOver 37 = .ok (.getfield 101, 3) := dcw_180 (by decide +kernel)
theorem dX11_comesOver_40 : decode cX11_comesOver 40 = .ok (.bipush 15, 2) := dcb_16 (n := 15) (by decide +kernel)
theorem dX11_comesOver_42 : decode cX11_comesOver 42 = .ok (.iload_n 1, 1) := dc1_27 (by decide +kernel)
theorem dX11_comesOver_43 : decode cX11_comesOver 43 = .ok (.iadd, 1) := dc1_96 (by decide +kernel)
theorem dX11_comesOver_44 : decode cX11_comesOver 44 = .ok (.iaload, 1) := dc1_46 (by decide +kernel)
theorem dX11_comesOver_45 : decode cX11_comesOver 45 = .ok (.iconst 2, 1) := dc1_5 (by decide +kernel)
theorem dX11_comesOver_46 : decode cX11_comesOver 46 = .ok (.if_icmp .ne 5, 3) := dcs_160 (n := 5) (by decide +kernel)
theorem dX11_comesOver_49 : decode cX11_comesOver 49 = .ok (.iconst 1, 1) := dc1_4 (by decide +kernel)
theorem dX11_comesOver_50 : decode cX11_comesOver 50 = .ok (.ireturn, 1) := dc1_172 (by decide +kernel)
theorem dX11_comesOver_51 : decode cX11_comesOver 51 = .ok (.iinc 4 1, 3) := dc_iinc (m := 1) (by decide +kernel)
theorem dX11_comesOver_54 : decode cX11_comesOver 54 = .ok (.goto (-47), 3) := dcs_167 (n := 65489) (by decide +kernel)
theorem dX11_comesOver_57 : decode cX11_comesOver 57 = .ok (.iconst 0, 1) := dc1_3 (by decide +kernel)
theorem dX11_comesOver_58 : decode cX11_comesOver 58 = .ok (.ireturn, 1) := dc1_172 (by decide +kernel)
theorem LX11_fillsChances_113 : Cond.fieldLink RX11 113 "GuessFerryModel" "chanceBy" "[I" ∈ wsX11_fillsChances := by decide +kernel
theorem inX11_fillsChances_X11 : ∀ w ∈ u_ws RX11 TX11 58, w ∈ wsX11_fillsChances := by decide +kernel
set_option maxHeartbeats 4000000 in
set_option maxRecDepth 100000 in
theorem br_fillsChances_6 {l : Launch} {dC : Nat → ClassId} {dI : Nat → Nat → Nat} {cB cI cJ cZ cS : ClassId} {h : Nat} {a : Nat → Nat} {as : List Value} {s' : RS} {k6 : RS → Int32 → Option RS} (hk6 : ∀ (s : RS) (x1 : Int32), k6 s x1 = some s' → BlkV l yX11_fillsChances wsX11_fillsChances ({ frames := 4, cells := 0, slots := 0, locals := 91 }) cX11_fillsChances 2 none (dC, dI) (tysA cB cI cJ cZ cS) as 6 (mwS cB cI cJ cZ h a s) [(0, .ref h), (1, .int x1)] [] (fun u => u = (mwS cB cI cJ cZ h a s'))) (s : RS) (x1 : Int32) (hB : r_fillsChances_6 k6 s x1 = some s') : BlkV l yX11_fillsChances wsX11_fillsChances ({ frames := 4, cells := 0, slots := 0, locals := 91 }) cX11_fillsChances 2 none (dC, dI) (tysA cB cI cJ cZ cS) as 6 (mwS cB cI cJ cZ h a s) [(0, .ref h), (1, .int x1)] [] (fun u => u = (mwS cB cI cJ cZ h a s')) := by
  intro p e s0 m below meth c A E H locs ls hP hD hS hl
  obtain ⟨C, hr, hlocks, hA, hK, hN⟩ := id E
  obtain ⟨hx, hb, hml, hown, hts⟩ := id C
  unfold r_fillsChances_6 at hB
  refine lv_iload_n hx hb dX11_fillsChances_6 rfl (lv_at hl 1 rfl) ?_
  refine lv_aload_n hx hb dX11_fillsChances_7 rfl (lv_at hl 0 rfl) ?_
  obtain ⟨q_, s1, hc, hB⟩ := bindI_inv hB
  refine q_goiF (va_runV (As := []) (rest := [.int x1]) C (cr_guesses hc _) (cwV 0 hts gX11_fillsChances_X11_guesses rfl rfl rfl (by decide +kernel) ⟨Nat.le_of_ble_eq_true rfl, Nat.le_of_ble_eq_true rfl⟩) (q_preV hK hP (ci := 11) (q0 := 0) rfl rfl rfl (q_preF hN hK hP hD)) rfl rfl hl.1 rfl (lv_room (Nat.le_of_ble_eq_true rfl)) dX11_fillsChances_8 ⟨Nat.le_of_ble_eq_true rfl, Nat.le_of_ble_eq_true rfl⟩) hD hS hA (fun r2 w1 H locs hw hP hD hS => ?_)
  obtain ⟨hq_, hw⟩ := hw; subst hw; subst hq_
  refine lv_icmp_ge (tgt := 31) hx hb dX11_fillsChances_11 (by decide) (fun c3 => ?_) (fun c3 => ?_)
  · have hB := if_p hB c3
    exact q_vret C hr hlocks hK hP hD hS (Nat.le_of_ble_eq_true rfl) (Nat.le_of_ble_eq_true rfl) dX11_fillsChances_31 (by cases hB; rfl)
  · have hB := if_n hB c3
    refine lv_aload_n hx hb dX11_fillsChances_14 rfl (lv_at hl 0 rfl) ?_
    refine q_get (v := .ref (a 50)) C inX11_fillsChances_X11 hK hP 0 rfl rfl 50 (by decide) rfl LX11_fillsChances_113 rfl dX11_fillsChances_15 ?_
    refine lv_iload_n hx hb dX11_fillsChances_18 rfl (lv_at hl 1 rfl) ?_
    refine lv_aload_n hx hb dX11_fillsChances_19 rfl (lv_at hl 0 rfl) ?_
    refine lv_iload_n hx hb dX11_fillsChances_20 rfl (lv_at hl 1 rfl) ?_
    obtain ⟨q_, s4, hc, hB⟩ := bindI_inv hB
    refine q_goiF (va_runV (As := [.int x1]) (rest := [.int x1, .ref (a 50)]) C (cr_chanceOf hc _) (cwV 1 hts gX11_fillsChances_X11_chanceOf rfl rfl rfl (by decide +kernel) ⟨Nat.le_of_ble_eq_true rfl, Nat.le_of_ble_eq_true rfl⟩) (q_preV hK hP (ci := 11) (q0 := 0) rfl rfl rfl (q_preF hN hK hP hD)) rfl rfl hl.1 rfl (lv_room (Nat.le_of_ble_eq_true rfl)) dX11_fillsChances_21 ⟨Nat.le_of_ble_eq_true rfl, Nat.le_of_ble_eq_true rfl⟩) hD hS hA (fun r5 w1 H locs hw hP hD hS => ?_)
    obtain ⟨hq_, hw⟩ := hw; subst hw; subst hq_
    obtain ⟨g6, hB⟩ := guard_inv hB
    obtain ⟨s7, hs8, hB⟩ := letS_inv hB
    refine q_iast (f2 := (upd (s4.f 50) (Int32.toNatClampNeg x1) r5)) (w2 := (mwS cB cI cJ cZ h a s7)) C hK hP hD hS 32 1 rfl rfl (vpb_in g6) dX11_fillsChances_24 rfl (mwS_f50 hs8) (fun H locs hP hD hS => ?_)
    refine lv_iinc (v := (x1 + 1)) (lv' := [(1, .int (x1 + 1)), (0, .ref h)]) hx hb dX11_fillsChances_25 hl (k := 1) rfl (rfl) (by decide) rfl (fun ls hl => ?_)
    refine lv_goto (tgt := 6) hx hb dX11_fillsChances_28 (by decide) ?_
    exact hk6 _ _ hB p e s0 m below meth c A E H locs ls hP hD hS (lv_sub hl [1, 0] rfl)
theorem br_fillsChances_6L {l : Launch} {dC : Nat → ClassId} {dI : Nat → Nat → Nat} {cB cI cJ cZ cS : ClassId} {h : Nat} {a : Nat → Nat} {as : List Value} {s' : RS} : ∀ (n : Nat) (s : RS) (x1 : Int32), r_fillsChances_6L n s x1 = some s' → BlkV l yX11_fillsChances wsX11_fillsChances ({ frames := 4, cells := 0, slots := 0, locals := 91 }) cX11_fillsChances 2 none (dC, dI) (tysA cB cI cJ cZ cS) as 6 (mwS cB cI cJ cZ h a s) [(0, .ref h), (1, .int x1)] [] (fun u => u = (mwS cB cI cJ cZ h a s')) := by
  intro n
  induction n with
  | zero => intro s x1 hB; exact none_ne hB
  | succ n ih => intro s x1 hB; exact br_fillsChances_6 ih _ _ hB
set_option maxHeartbeats 4000000 in
set_option maxRecDepth 100000 in
theorem br_fillsChances {l : Launch} {dC : Nat → ClassId} {dI : Nat → Nat → Nat} {cB cI cJ cZ cS : ClassId} {h : Nat} {a : Nat → Nat} {as : List Value} {s' : RS} (s : RS) (hB : r_fillsChances s = some s') : BlkV l yX11_fillsChances wsX11_fillsChances ({ frames := 4, cells := 0, slots := 0, locals := 91 }) cX11_fillsChances 2 none (dC, dI) (tysA cB cI cJ cZ cS) as 0 (mwS cB cI cJ cZ h a s) [(0, .ref h)] [] (fun u => u = (mwS cB cI cJ cZ h a s')) := by
  intro p e s0 m below meth c A E H locs ls hP hD hS hl
  obtain ⟨C, hr, hlocks, hA, hK, hN⟩ := id E
  obtain ⟨hx, hb, hml, hown, hts⟩ := id C
  unfold r_fillsChances at hB
  refine lv_aload_n hx hb dX11_fillsChances_0 rfl (lv_at hl 0 rfl) ?_
  obtain ⟨s1, hc, hB⟩ := bindP_inv hB
  refine q_govF (va_runV (As := []) (rest := []) C (cr_copies hc _) (cwV 0 hts gX11_fillsChances_X11_copies rfl rfl rfl (by decide +kernel) ⟨Nat.le_of_ble_eq_true rfl, Nat.le_of_ble_eq_true rfl⟩) (q_preV hK hP (ci := 11) (q0 := 0) rfl rfl rfl (q_preF hN hK hP hD)) rfl rfl hl.1 rfl (lv_room (Nat.le_of_ble_eq_true rfl)) dX11_fillsChances_1 ⟨Nat.le_of_ble_eq_true rfl, Nat.le_of_ble_eq_true rfl⟩) hD hS hA (fun w1 H locs hw hP hD hS => ?_)
  subst hw
  refine lv_iconst (v := 0) hx hb dX11_fillsChances_4 (by decide) ?_
  refine lv_istore_n (lv' := [(1, .int 0), (0, .ref h)]) hx hb dX11_fillsChances_5 rfl hl (by decide) rfl (fun ls hl => ?_)
  exact br_fillsChances_6L fu _ _ hB p e s0 m below meth c A E H locs ls hP hD hS (lv_sub hl [1, 0] rfl)
theorem cr_fillsChances {l : Launch} {dC : Nat → ClassId} {dI : Nat → Nat → Nat} {cB cI cJ cZ cS : ClassId} {h : Nat} {a : Nat → Nat} {s' : RS} {s : RS} (hB : r_fillsChances s = some s') : CV l yX11_fillsChances wsX11_fillsChances ({ frames := 4, cells := 0, slots := 0, locals := 91 }) (dC, dI) (tysA cB cI cJ cZ cS) (mwS cB cI cJ cZ h a s) [.ref h] (fun u => u = (mwS cB cI cJ cZ h a s')) :=
  CV_of (cc := cX11_fillsChances) (maxL := 2) (ret := none) (by decide) rfl (Nat.le_of_ble_eq_true rfl) (br_fillsChances _ hB)
theorem LX11_isAhead_113 : Cond.fieldLink RX11 113 "GuessFerryModel" "chanceBy" "[I" ∈ wsX11_isAhead := by decide +kernel
theorem inX11_isAhead_X11 : ∀ w ∈ u_ws RX11 TX11 58, w ∈ wsX11_isAhead := fun _ h => List.mem_cons_of_mem _ (List.mem_append_right _ h)
set_option maxHeartbeats 4000000 in
set_option maxRecDepth 100000 in
theorem br_isAhead {l : Launch} {dC : Nat → ClassId} {dI : Nat → Nat → Nat} {cB cI cJ cZ cS : ClassId} {h : Nat} {a : Nat → Nat} {as : List Value} {r : Int32} {s' : RS} (s : RS) (x1 : Int32) (x2 : Int32) (hB : r_isAhead s x1 x2 = some (r, s')) : BlkI l yX11_isAhead wsX11_isAhead ({ frames := 0, cells := 0, slots := 0, locals := 0 }) cX11_isAhead 3 (some .boolean) (dC, dI) (tysA cB cI cJ cZ cS) as 0 (mwS cB cI cJ cZ h a s) [(0, .ref h), (1, .int x1), (2, .int x2)] [] (fun x u => x = r ∧ u = (mwS cB cI cJ cZ h a s')) := by
  intro p e s0 m below meth c A E H locs ls hP hD hS hl
  obtain ⟨C, hr, hlocks, hA, hK, hN⟩ := id E
  obtain ⟨hx, hb, hml, hown, hts⟩ := id C
  unfold r_isAhead at hB
  refine lv_aload_n hx hb dX11_isAhead_0 rfl (lv_at hl 0 rfl) ?_
  refine q_get (v := .ref (a 50)) C inX11_isAhead_X11 hK hP 0 rfl rfl 50 (by decide) rfl LX11_isAhead_113 rfl dX11_isAhead_1 ?_
  refine lv_iload_n hx hb dX11_isAhead_4 rfl (lv_at hl 1 rfl) ?_
  obtain ⟨g1, hB⟩ := guard_inv hB
  refine q_iald (x := (s.f 50 (Int32.toNatClampNeg x1))) C hK hP 32 1 rfl rfl (vpb_in g1) dX11_isAhead_5 rfl ?_
  refine lv_aload_n hx hb dX11_isAhead_6 rfl (lv_at hl 0 rfl) ?_
  refine q_get (v := .ref (a 50)) C inX11_isAhead_X11 hK hP 0 rfl rfl 50 (by decide) rfl LX11_isAhead_113 rfl dX11_isAhead_7 ?_
  refine lv_iload_n hx hb dX11_isAhead_10 rfl (lv_at hl 2 rfl) ?_
  obtain ⟨g2, hB⟩ := guard_inv hB
  refine q_iald (x := (s.f 50 (Int32.toNatClampNeg x2))) C hK hP 32 1 rfl rfl (vpb_in g2) dX11_isAhead_11 rfl ?_
  refine lv_icmp_gt (tgt := 35) hx hb dX11_isAhead_12 (by decide) (fun c3 => ?_) (fun c3 => ?_)
  · have hB := if_p hB c3
    refine lv_iconst (v := 1) hx hb dX11_isAhead_35 (by decide) ?_
    refine lv_goto (tgt := 40) hx hb dX11_isAhead_36 (by decide) ?_
    exact q_zret C hr hlocks (Or.inr rfl) hK hP hD hS (Nat.le_of_ble_eq_true rfl) (Nat.le_of_ble_eq_true rfl) dX11_isAhead_40 (by cases hB; exact ⟨rfl, rfl⟩)
  · have hB := if_n hB c3
    refine lv_aload_n hx hb dX11_isAhead_15 rfl (lv_at hl 0 rfl) ?_
    refine q_get (v := .ref (a 50)) C inX11_isAhead_X11 hK hP 0 rfl rfl 50 (by decide) rfl LX11_isAhead_113 rfl dX11_isAhead_16 ?_
    refine lv_iload_n hx hb dX11_isAhead_19 rfl (lv_at hl 1 rfl) ?_
    obtain ⟨g4, hB⟩ := guard_inv hB
    refine q_iald (x := (s.f 50 (Int32.toNatClampNeg x1))) C hK hP 32 1 rfl rfl (vpb_in g4) dX11_isAhead_20 rfl ?_
    refine lv_aload_n hx hb dX11_isAhead_21 rfl (lv_at hl 0 rfl) ?_
    refine q_get (v := .ref (a 50)) C inX11_isAhead_X11 hK hP 0 rfl rfl 50 (by decide) rfl LX11_isAhead_113 rfl dX11_isAhead_22 ?_
    refine lv_iload_n hx hb dX11_isAhead_25 rfl (lv_at hl 2 rfl) ?_
    obtain ⟨g5, hB⟩ := guard_inv hB
    refine q_iald (x := (s.f 50 (Int32.toNatClampNeg x2))) C hK hP 32 1 rfl rfl (vpb_in g5) dX11_isAhead_26 rfl ?_
    refine lv_icmp_ne (tgt := 39) hx hb dX11_isAhead_27 (by decide) (fun c6 => ?_) (fun c6 => ?_)
    · have hB := if_n hB c6
      refine lv_iconst (v := 0) hx hb dX11_isAhead_39 (by decide) ?_
      exact q_zret C hr hlocks (Or.inl rfl) hK hP hD hS (Nat.le_of_ble_eq_true rfl) (Nat.le_of_ble_eq_true rfl) dX11_isAhead_40 (by cases hB; exact ⟨rfl, rfl⟩)
    · have hB := if_p hB c6
      refine lv_iload_n hx hb dX11_isAhead_30 rfl (lv_at hl 1 rfl) ?_
      refine lv_iload_n hx hb dX11_isAhead_31 rfl (lv_at hl 2 rfl) ?_
      refine lv_icmp_ge (tgt := 39) hx hb dX11_isAhead_32 (by decide) (fun c7 => ?_) (fun c7 => ?_)
      · have hB := if_p hB c7
        refine lv_iconst (v := 0) hx hb dX11_isAhead_39 (by decide) ?_
        exact q_zret C hr hlocks (Or.inl rfl) hK hP hD hS (Nat.le_of_ble_eq_true rfl) (Nat.le_of_ble_eq_true rfl) dX11_isAhead_40 (by cases hB; exact ⟨rfl, rfl⟩)
      · have hB := if_n hB c7
        refine lv_iconst (v := 1) hx hb dX11_isAhead_35 (by decide) ?_
        refine lv_goto (tgt := 40) hx hb dX11_isAhead_36 (by decide) ?_
        exact q_zret C hr hlocks (Or.inr rfl) hK hP hD hS (Nat.le_of_ble_eq_true rfl) (Nat.le_of_ble_eq_true rfl) dX11_isAhead_40 (by cases hB; exact ⟨rfl, rfl⟩)
theorem cr_isAhead {l : Launch} {dC : Nat → ClassId} {dI : Nat → Nat → Nat} {cB cI cJ cZ cS : ClassId} {h : Nat} {a : Nat → Nat} {r : Int32} {s' : RS} {s : RS} {x1 : Int32} {x2 : Int32} (hB : r_isAhead s x1 x2 = some (r, s')) : CI l yX11_isAhead wsX11_isAhead ({ frames := 0, cells := 0, slots := 0, locals := 0 }) (dC, dI) (tysA cB cI cJ cZ cS) (mwS cB cI cJ cZ h a s) [.ref h, .int x1, .int x2] (fun x u => x = r ∧ u = (mwS cB cI cJ cZ h a s')) :=
  CI_of (cc := cX11_isAhead) (maxL := 3) (ret := (some .boolean)) (by decide) rfl (Nat.le_of_ble_eq_true rfl) (br_isAhead _ _ _ hB)
set_option maxHeartbeats 4000000 in
set_option maxRecDepth 100000 in
theorem br_rank_49 {l : Launch} {dC : Nat → ClassId} {dI : Nat → Nat → Nat} {cB cI cJ cZ cS : ClassId} {h : Nat} {a : Nat → Nat} {as : List Value} {r : Int32} {s' : RS} {k29 : RS → Int32 → Int32 → Int32 → Option (Int32 × RS)} (hk29 : ∀ (s : RS) (x1 : Int32) (x2 : Int32) (x3 : Int32), k29 s x1 x2 x3 = some (r, s') → BlkI l yX11_rank wsX11_rank ({ frames := 5, cells := 0, slots := 0, locals := 112 }) cX11_rank 4 (some .int) (dC, dI) (tysA cB cI cJ cZ cS) as 29 (mwS cB cI cJ cZ h a s) [(0, .ref h), (1, .int x1), (2, .int x2), (3, .int x3)] [] (fun x u => x = r ∧ u = (mwS cB cI cJ cZ h a s'))) (s : RS) (x1 : Int32) (x2 : Int32) (x3 : Int32) (hB : r_rank_49 k29 s x1 x2 x3 = some (r, s')) : BlkI l yX11_rank wsX11_rank ({ frames := 5, cells := 0, slots := 0, locals := 112 }) cX11_rank 4 (some .int) (dC, dI) (tysA cB cI cJ cZ cS) as 49 (mwS cB cI cJ cZ h a s) [(0, .ref h), (1, .int x1), (2, .int x2), (3, .int x3)] [] (fun x u => x = r ∧ u = (mwS cB cI cJ cZ h a s')) := by
  intro p e s0 m below meth c A E H locs ls hP hD hS hl
  obtain ⟨C, hr, hlocks, hA, hK, hN⟩ := id E
  obtain ⟨hx, hb, hml, hown, hts⟩ := id C
  unfold r_rank_49 at hB
  refine lv_iinc (v := (x3 + 1)) (lv' := [(3, .int (x3 + 1)), (0, .ref h), (1, .int x1), (2, .int x2)]) hx hb dX11_rank_49 hl (k := 3) rfl (rfl) (by decide) rfl (fun ls hl => ?_)
  refine lv_goto (tgt := 29) hx hb dX11_rank_52 (by decide) ?_
  exact hk29 _ _ _ _ hB p e s0 m below meth c A E H locs ls hP hD hS (lv_sub hl [1, 2, 3, 0] rfl)
set_option maxHeartbeats 4000000 in
set_option maxRecDepth 100000 in
theorem br_rank_29 {l : Launch} {dC : Nat → ClassId} {dI : Nat → Nat → Nat} {cB cI cJ cZ cS : ClassId} {h : Nat} {a : Nat → Nat} {as : List Value} {r : Int32} {s' : RS} {k29 : RS → Int32 → Int32 → Int32 → Option (Int32 × RS)} (hk29 : ∀ (s : RS) (x1 : Int32) (x2 : Int32) (x3 : Int32), k29 s x1 x2 x3 = some (r, s') → BlkI l yX11_rank wsX11_rank ({ frames := 5, cells := 0, slots := 0, locals := 112 }) cX11_rank 4 (some .int) (dC, dI) (tysA cB cI cJ cZ cS) as 29 (mwS cB cI cJ cZ h a s) [(0, .ref h), (1, .int x1), (2, .int x2), (3, .int x3)] [] (fun x u => x = r ∧ u = (mwS cB cI cJ cZ h a s'))) (s : RS) (x1 : Int32) (x2 : Int32) (x3 : Int32) (hB : r_rank_29 k29 s x1 x2 x3 = some (r, s')) : BlkI l yX11_rank wsX11_rank ({ frames := 5, cells := 0, slots := 0, locals := 112 }) cX11_rank 4 (some .int) (dC, dI) (tysA cB cI cJ cZ cS) as 29 (mwS cB cI cJ cZ h a s) [(0, .ref h), (1, .int x1), (2, .int x2), (3, .int x3)] [] (fun x u => x = r ∧ u = (mwS cB cI cJ cZ h a s')) := by
  intro p e s0 m below meth c A E H locs ls hP hD hS hl
  obtain ⟨C, hr, hlocks, hA, hK, hN⟩ := id E
  obtain ⟨hx, hb, hml, hown, hts⟩ := id C
  unfold r_rank_29 at hB
  refine lv_iload_n hx hb dX11_rank_29 rfl (lv_at hl 3 rfl) ?_
  refine lv_aload_n hx hb dX11_rank_30 rfl (lv_at hl 0 rfl) ?_
  obtain ⟨q_, s1, hc, hB⟩ := bindI_inv hB
  refine q_goiF (va_runV (As := []) (rest := [.int x3]) C (cr_guesses hc _) (cwV 0 hts gX11_rank_X11_guesses rfl rfl rfl (by decide +kernel) ⟨Nat.le_of_ble_eq_true rfl, Nat.le_of_ble_eq_true rfl⟩) (q_preV hK hP (ci := 11) (q0 := 0) rfl rfl rfl (q_preF hN hK hP hD)) rfl rfl hl.1 rfl (lv_room (Nat.le_of_ble_eq_true rfl)) dX11_rank_31 ⟨Nat.le_of_ble_eq_true rfl, Nat.le_of_ble_eq_true rfl⟩) hD hS hA (fun r2 w1 H locs hw hP hD hS => ?_)
  obtain ⟨hq_, hw⟩ := hw; subst hw; subst hq_
  refine lv_icmp_ge (tgt := 55) hx hb dX11_rank_34 (by decide) (fun c3 => ?_) (fun c3 => ?_)
  · have hB := if_p hB c3
    refine lv_iload_n hx hb dX11_rank_55 rfl (lv_at hl 2 rfl) ?_
    exact q_iret C hr hlocks hK hP hD hS (Nat.le_of_ble_eq_true rfl) (Nat.le_of_ble_eq_true rfl) dX11_rank_56 (by cases hB; exact ⟨rfl, rfl⟩)
  · have hB := if_n hB c3
    refine lv_aload_n hx hb dX11_rank_37 rfl (lv_at hl 0 rfl) ?_
    refine lv_iload_n hx hb dX11_rank_38 rfl (lv_at hl 3 rfl) ?_
    refine lv_iload_n hx hb dX11_rank_39 rfl (lv_at hl 1 rfl) ?_
    obtain ⟨q_, s4, hc, hB⟩ := bindI_inv hB
    refine q_goiF (va_runV (As := [.int x3, .int x1]) (rest := []) C (cr_isAhead hc _) (cwV 2 hts gX11_rank_X11_isAhead rfl rfl rfl (by decide +kernel) ⟨Nat.le_of_ble_eq_true rfl, Nat.le_of_ble_eq_true rfl⟩) (q_preV hK hP (ci := 11) (q0 := 0) rfl rfl rfl (q_preF hN hK hP hD)) rfl rfl hl.1 rfl (lv_room (Nat.le_of_ble_eq_true rfl)) dX11_rank_40 ⟨Nat.le_of_ble_eq_true rfl, Nat.le_of_ble_eq_true rfl⟩) hD hS hA (fun r5 w1 H locs hw hP hD hS => ?_)
    obtain ⟨hq_, hw⟩ := hw; subst hw; subst hq_
    refine lv_if_eq (tgt := 49) hx hb dX11_rank_43 (by decide) (fun c6 => ?_) (fun c6 => ?_)
    · have hB := if_p hB c6
      exact br_rank_49 (hk29) _ _ _ _ hB p e s0 m below meth c A E H locs ls hP hD hS (lv_sub hl [0, 1, 2, 3] rfl)
    · have hB := if_n hB c6
      refine lv_iinc (v := (x2 + 1)) (lv' := [(2, .int (x2 + 1)), (0, .ref h), (1, .int x1), (3, .int x3)]) hx hb dX11_rank_46 hl (k := 2) rfl (rfl) (by decide) rfl (fun ls hl => ?_)
      exact br_rank_49 (hk29) _ _ _ _ hB p e s0 m below meth c A E H locs ls hP hD hS (lv_sub hl [1, 2, 0, 3] rfl)
theorem br_rank_29L {l : Launch} {dC : Nat → ClassId} {dI : Nat → Nat → Nat} {cB cI cJ cZ cS : ClassId} {h : Nat} {a : Nat → Nat} {as : List Value} {r : Int32} {s' : RS} : ∀ (n : Nat) (s : RS) (x1 : Int32) (x2 : Int32) (x3 : Int32), r_rank_29L n s x1 x2 x3 = some (r, s') → BlkI l yX11_rank wsX11_rank ({ frames := 5, cells := 0, slots := 0, locals := 112 }) cX11_rank 4 (some .int) (dC, dI) (tysA cB cI cJ cZ cS) as 29 (mwS cB cI cJ cZ h a s) [(0, .ref h), (1, .int x1), (2, .int x2), (3, .int x3)] [] (fun x u => x = r ∧ u = (mwS cB cI cJ cZ h a s')) := by
  intro n
  induction n with
  | zero => intro s x1 x2 x3 hB; exact none_ne hB
  | succ n ih => intro s x1 x2 x3 hB; exact br_rank_29 ih _ _ _ _ hB
set_option maxHeartbeats 4000000 in
set_option maxRecDepth 100000 in
theorem br_rank {l : Launch} {dC : Nat → ClassId} {dI : Nat → Nat → Nat} {cB cI cJ cZ cS : ClassId} {h : Nat} {a : Nat → Nat} {as : List Value} {r : Int32} {s' : RS} (s : RS) (x1 : Int32) (hB : r_rank s x1 = some (r, s')) : BlkI l yX11_rank wsX11_rank ({ frames := 5, cells := 0, slots := 0, locals := 112 }) cX11_rank 4 (some .int) (dC, dI) (tysA cB cI cJ cZ cS) as 0 (mwS cB cI cJ cZ h a s) [(0, .ref h), (1, .int x1)] [] (fun x u => x = r ∧ u = (mwS cB cI cJ cZ h a s')) := by
  intro p e s0 m below meth c A E H locs ls hP hD hS hl
  obtain ⟨C, hr, hlocks, hA, hK, hN⟩ := id E
  obtain ⟨hx, hb, hml, hown, hts⟩ := id C
  unfold r_rank at hB
  refine lv_aload_n hx hb dX11_rank_0 rfl (lv_at hl 0 rfl) ?_
  refine lv_iload_n hx hb dX11_rank_1 rfl (lv_at hl 1 rfl) ?_
  obtain ⟨q_, s1, hc, hB⟩ := bindI_inv hB
  refine q_goiF (va_runV (As := [.int x1]) (rest := []) C (cr_isGuess hc _) (cwV 1 hts gX11_rank_X11_isGuess rfl rfl rfl (by decide +kernel) ⟨Nat.le_of_ble_eq_true rfl, Nat.le_of_ble_eq_true rfl⟩) (q_preV hK hP (ci := 11) (q0 := 0) rfl rfl rfl (q_preF hN hK hP hD)) rfl rfl hl.1 rfl (lv_room (Nat.le_of_ble_eq_true rfl)) dX11_rank_2 ⟨Nat.le_of_ble_eq_true rfl, Nat.le_of_ble_eq_true rfl⟩) hD hS hA (fun r2 w1 H locs hw hP hD hS => ?_)
  obtain ⟨hq_, hw⟩ := hw; subst hw; subst hq_
  refine lv_if_ne (tgt := 10) hx hb dX11_rank_5 (by decide) (fun c3 => ?_) (fun c3 => ?_)
  · have hB := if_n hB c3
    refine lv_aload_n hx hb dX11_rank_10 rfl (lv_at hl 0 rfl) ?_
    obtain ⟨s4, hc, hB⟩ := bindP_inv hB
    refine q_govF (va_runV (As := []) (rest := []) C (cr_fillsChances hc _) (cwV 0 hts gX11_rank_X11_fillsChances rfl rfl rfl (by decide +kernel) ⟨Nat.le_of_ble_eq_true rfl, Nat.le_of_ble_eq_true rfl⟩) (q_preV hK hP (ci := 11) (q0 := 0) rfl rfl rfl (q_preF hN hK hP hD)) rfl rfl hl.1 rfl (lv_room (Nat.le_of_ble_eq_true rfl)) dX11_rank_11 ⟨Nat.le_of_ble_eq_true rfl, Nat.le_of_ble_eq_true rfl⟩) hD hS hA (fun w1 H locs hw hP hD hS => ?_)
    subst hw
    refine lv_aload_n hx hb dX11_rank_14 rfl (lv_at hl 0 rfl) ?_
    refine lv_iload_n hx hb dX11_rank_15 rfl (lv_at hl 1 rfl) ?_
    obtain ⟨q_, s5, hc, hB⟩ := bindI_inv hB
    refine q_goiF (va_runV (As := [.int x1]) (rest := []) C (cr_isCase hc _) (cwV 1 hts gX11_rank_X11_isCase rfl rfl rfl (by decide +kernel) ⟨Nat.le_of_ble_eq_true rfl, Nat.le_of_ble_eq_true rfl⟩) (q_preV hK hP (ci := 11) (q0 := 0) rfl rfl rfl (q_preF hN hK hP hD)) rfl rfl hl.1 rfl (lv_room (Nat.le_of_ble_eq_true rfl)) dX11_rank_16 ⟨Nat.le_of_ble_eq_true rfl, Nat.le_of_ble_eq_true rfl⟩) hD hS hA (fun r6 w1 H locs hw hP hD hS => ?_)
    obtain ⟨hq_, hw⟩ := hw; subst hw; subst hq_
    refine lv_if_ne (tgt := 25) hx hb dX11_rank_19 (by decide) (fun c7 => ?_) (fun c7 => ?_)
    · have hB := if_n hB c7
      refine lv_iconst (v := 0) hx hb dX11_rank_25 (by decide) ?_
      refine lv_istore_n (lv' := [(2, .int 0), (0, .ref h), (1, .int x1)]) hx hb dX11_rank_26 rfl hl (by decide) rfl (fun ls hl => ?_)
      refine lv_iconst (v := 0) hx hb dX11_rank_27 (by decide) ?_
      refine lv_istore_n (lv' := [(3, .int 0), (2, .int 0), (0, .ref h), (1, .int x1)]) hx hb dX11_rank_28 rfl hl (by decide) rfl (fun ls hl => ?_)
      exact br_rank_29L fu _ _ _ _ hB p e s0 m below meth c A E H locs ls hP hD hS (lv_sub hl [2, 3, 1, 0] rfl)
    · have hB := if_p hB c7
      refine lv_bipush (v := (-2)) hx hb dX11_rank_22 (by decide) ?_
      exact q_iret C hr hlocks hK hP hD hS (Nat.le_of_ble_eq_true rfl) (Nat.le_of_ble_eq_true rfl) dX11_rank_24 (by cases hB; exact ⟨rfl, rfl⟩)
  · have hB := if_p hB c3
    refine lv_iconst (v := (-1)) hx hb dX11_rank_8 (by decide) ?_
    exact q_iret C hr hlocks hK hP hD hS (Nat.le_of_ble_eq_true rfl) (Nat.le_of_ble_eq_true rfl) dX11_rank_9 (by cases hB; exact ⟨rfl, rfl⟩)
theorem cr_rank {l : Launch} {dC : Nat → ClassId} {dI : Nat → Nat → Nat} {cB cI cJ cZ cS : ClassId} {h : Nat} {a : Nat → Nat} {r : Int32} {s' : RS} {s : RS} {x1 : Int32} (hB : r_rank s x1 = some (r, s')) : CI l yX11_rank wsX11_rank ({ frames := 5, cells := 0, slots := 0, locals := 112 }) (dC, dI) (tysA cB cI cJ cZ cS) (mwS cB cI cJ cZ h a s) [.ref h, .int x1] (fun x u => x = r ∧ u = (mwS cB cI cJ cZ h a s')) :=
  CI_of (cc := cX11_rank) (maxL := 4) (ret := (some .int)) (by decide) rfl (Nat.le_of_ble_eq_true rfl) (br_rank _ _ hB)
theorem LX11_ranked_113 : Cond.fieldLink RX11 113 "GuessFerryModel" "chanceBy" "[I" ∈ wsX11_ranked := by decide +kernel
theorem inX11_ranked_X11 : ∀ w ∈ u_ws RX11 TX11 58, w ∈ wsX11_ranked := by decide +kernel
set_option maxHeartbeats 4000000 in
set_option maxRecDepth 100000 in
theorem br_ranked_84 {l : Launch} {dC : Nat → ClassId} {dI : Nat → Nat → Nat} {cB cI cJ cZ cS : ClassId} {h : Nat} {a : Nat → Nat} {as : List Value} {r : Int32} {s' : RS} {k20 : RS → Int32 → Int32 → Int32 → Option (Int32 × RS)} {k31 : RS → Int32 → Int32 → Int32 → Int32 → Int32 → Option (Int32 × RS)} (hk20 : ∀ (s : RS) (x1 : Int32) (x2 : Int32) (x3 : Int32), k20 s x1 x2 x3 = some (r, s') → BlkI l yX11_ranked wsX11_ranked ({ frames := 5, cells := 0, slots := 0, locals := 112 }) cX11_ranked 6 (some .int) (dC, dI) (tysA cB cI cJ cZ cS) as 20 (mwS cB cI cJ cZ h a s) [(0, .ref h), (1, .int x1), (2, .int x2), (3, .int x3)] [] (fun x u => x = r ∧ u = (mwS cB cI cJ cZ h a s'))) (hk31 : ∀ (s : RS) (x1 : Int32) (x2 : Int32) (x3 : Int32) (x4 : Int32) (x5 : Int32), k31 s x1 x2 x3 x4 x5 = some (r, s') → BlkI l yX11_ranked wsX11_ranked ({ frames := 5, cells := 0, slots := 0, locals := 112 }) cX11_ranked 6 (some .int) (dC, dI) (tysA cB cI cJ cZ cS) as 31 (mwS cB cI cJ cZ h a s) [(0, .ref h), (1, .int x1), (2, .int x2), (3, .int x3), (4, .int x4), (5, .int x5)] [] (fun x u => x = r ∧ u = (mwS cB cI cJ cZ h a s'))) (s : RS) (x1 : Int32) (x2 : Int32) (x3 : Int32) (x4 : Int32) (x5 : Int32) (hB : r_ranked_84 k20 k31 s x1 x2 x3 x4 x5 = some (r, s')) : BlkI l yX11_ranked wsX11_ranked ({ frames := 5, cells := 0, slots := 0, locals := 112 }) cX11_ranked 6 (some .int) (dC, dI) (tysA cB cI cJ cZ cS) as 84 (mwS cB cI cJ cZ h a s) [(0, .ref h), (1, .int x1), (2, .int x2), (3, .int x3), (4, .int x4), (5, .int x5)] [] (fun x u => x = r ∧ u = (mwS cB cI cJ cZ h a s')) := by
  intro p e s0 m below meth c A E H locs ls hP hD hS hl
  obtain ⟨C, hr, hlocks, hA, hK, hN⟩ := id E
  obtain ⟨hx, hb, hml, hown, hts⟩ := id C
  unfold r_ranked_84 at hB
  refine lv_iinc (v := (x5 + 1)) (lv' := [(5, .int (x5 + 1)), (0, .ref h), (1, .int x1), (2, .int x2), (3, .int x3), (4, .int x4)]) hx hb dX11_ranked_84 hl (k := 5) rfl (rfl) (by decide) rfl (fun ls hl => ?_)
  refine lv_goto (tgt := 31) hx hb dX11_ranked_87 (by decide) ?_
  exact hk31 _ _ _ _ _ _ hB p e s0 m below meth c A E H locs ls hP hD hS (lv_sub hl [1, 2, 3, 4, 5, 0] rfl)
set_option maxHeartbeats 4000000 in
set_option maxRecDepth 100000 in
theorem br_ranked_80 {l : Launch} {dC : Nat → ClassId} {dI : Nat → Nat → Nat} {cB cI cJ cZ cS : ClassId} {h : Nat} {a : Nat → Nat} {as : List Value} {r : Int32} {s' : RS} {k20 : RS → Int32 → Int32 → Int32 → Option (Int32 × RS)} {k31 : RS → Int32 → Int32 → Int32 → Int32 → Int32 → Option (Int32 × RS)} (hk20 : ∀ (s : RS) (x1 : Int32) (x2 : Int32) (x3 : Int32), k20 s x1 x2 x3 = some (r, s') → BlkI l yX11_ranked wsX11_ranked ({ frames := 5, cells := 0, slots := 0, locals := 112 }) cX11_ranked 6 (some .int) (dC, dI) (tysA cB cI cJ cZ cS) as 20 (mwS cB cI cJ cZ h a s) [(0, .ref h), (1, .int x1), (2, .int x2), (3, .int x3)] [] (fun x u => x = r ∧ u = (mwS cB cI cJ cZ h a s'))) (hk31 : ∀ (s : RS) (x1 : Int32) (x2 : Int32) (x3 : Int32) (x4 : Int32) (x5 : Int32), k31 s x1 x2 x3 x4 x5 = some (r, s') → BlkI l yX11_ranked wsX11_ranked ({ frames := 5, cells := 0, slots := 0, locals := 112 }) cX11_ranked 6 (some .int) (dC, dI) (tysA cB cI cJ cZ cS) as 31 (mwS cB cI cJ cZ h a s) [(0, .ref h), (1, .int x1), (2, .int x2), (3, .int x3), (4, .int x4), (5, .int x5)] [] (fun x u => x = r ∧ u = (mwS cB cI cJ cZ h a s'))) (s : RS) (x1 : Int32) (x2 : Int32) (x3 : Int32) (x5 : Int32) (hB : r_ranked_80 k20 k31 s x1 x2 x3 x5 = some (r, s')) : BlkI l yX11_ranked wsX11_ranked ({ frames := 5, cells := 0, slots := 0, locals := 112 }) cX11_ranked 6 (some .int) (dC, dI) (tysA cB cI cJ cZ cS) as 80 (mwS cB cI cJ cZ h a s) [(0, .ref h), (1, .int x1), (2, .int x2), (3, .int x3), (5, .int x5)] [] (fun x u => x = r ∧ u = (mwS cB cI cJ cZ h a s')) := by
  intro p e s0 m below meth c A E H locs ls hP hD hS hl
  obtain ⟨C, hr, hlocks, hA, hK, hN⟩ := id E
  obtain ⟨hx, hb, hml, hown, hts⟩ := id C
  unfold r_ranked_80 at hB
  refine lv_iload hx hb dX11_ranked_80 (lv_at hl 4 rfl) ?_
  refine lv_istore (lv' := [(4, .int x5), (0, .ref h), (1, .int x1), (2, .int x2), (3, .int x3), (5, .int x5)]) hx hb dX11_ranked_82 hl (by decide) rfl (fun ls hl => ?_)
  exact br_ranked_84 (hk20) (hk31) _ _ _ _ _ _ hB p e s0 m below meth c A E H locs ls hP hD hS (lv_sub hl [1, 2, 3, 4, 0, 5] rfl)
set_option maxHeartbeats 4000000 in
set_option maxRecDepth 100000 in
theorem br_ranked_64 {l : Launch} {dC : Nat → ClassId} {dI : Nat → Nat → Nat} {cB cI cJ cZ cS : ClassId} {h : Nat} {a : Nat → Nat} {as : List Value} {r : Int32} {s' : RS} {k20 : RS → Int32 → Int32 → Int32 → Option (Int32 × RS)} {k31 : RS → Int32 → Int32 → Int32 → Int32 → Int32 → Option (Int32 × RS)} (hk20 : ∀ (s : RS) (x1 : Int32) (x2 : Int32) (x3 : Int32), k20 s x1 x2 x3 = some (r, s') → BlkI l yX11_ranked wsX11_ranked ({ frames := 5, cells := 0, slots := 0, locals := 112 }) cX11_ranked 6 (some .int) (dC, dI) (tysA cB cI cJ cZ cS) as 20 (mwS cB cI cJ cZ h a s) [(0, .ref h), (1, .int x1), (2, .int x2), (3, .int x3)] [] (fun x u => x = r ∧ u = (mwS cB cI cJ cZ h a s'))) (hk31 : ∀ (s : RS) (x1 : Int32) (x2 : Int32) (x3 : Int32) (x4 : Int32) (x5 : Int32), k31 s x1 x2 x3 x4 x5 = some (r, s') → BlkI l yX11_ranked wsX11_ranked ({ frames := 5, cells := 0, slots := 0, locals := 112 }) cX11_ranked 6 (some .int) (dC, dI) (tysA cB cI cJ cZ cS) as 31 (mwS cB cI cJ cZ h a s) [(0, .ref h), (1, .int x1), (2, .int x2), (3, .int x3), (4, .int x4), (5, .int x5)] [] (fun x u => x = r ∧ u = (mwS cB cI cJ cZ h a s'))) (s : RS) (x1 : Int32) (x2 : Int32) (x3 : Int32) (x4 : Int32) (x5 : Int32) (hB : r_ranked_64 k20 k31 s x1 x2 x3 x4 x5 = some (r, s')) : BlkI l yX11_ranked wsX11_ranked ({ frames := 5, cells := 0, slots := 0, locals := 112 }) cX11_ranked 6 (some .int) (dC, dI) (tysA cB cI cJ cZ cS) as 64 (mwS cB cI cJ cZ h a s) [(0, .ref h), (1, .int x1), (2, .int x2), (3, .int x3), (4, .int x4), (5, .int x5)] [] (fun x u => x = r ∧ u = (mwS cB cI cJ cZ h a s')) := by
  intro p e s0 m below meth c A E H locs ls hP hD hS hl
  obtain ⟨C, hr, hlocks, hA, hK, hN⟩ := id E
  obtain ⟨hx, hb, hml, hown, hts⟩ := id C
  unfold r_ranked_64 at hB
  refine lv_iload hx hb dX11_ranked_64 (lv_at hl 4 rfl) ?_
  refine lv_if_lt (tgt := 80) hx hb dX11_ranked_66 (by decide) (fun c1 => ?_) (fun c1 => ?_)
  · have hB := if_p hB c1
    exact br_ranked_80 (hk20) (hk31) _ _ _ _ _ hB p e s0 m below meth c A E H locs ls hP hD hS (lv_sub hl [0, 1, 2, 3, 5] rfl)
  · have hB := if_n hB c1
    refine lv_aload_n hx hb dX11_ranked_69 rfl (lv_at hl 0 rfl) ?_
    refine lv_iload hx hb dX11_ranked_70 (lv_at hl 5 rfl) ?_
    refine lv_iload hx hb dX11_ranked_72 (lv_at hl 4 rfl) ?_
    obtain ⟨q_, s2, hc, hB⟩ := bindI_inv hB
    refine q_goiF (va_runV (As := [.int x5, .int x4]) (rest := []) C (cr_isAhead hc _) (cwV 2 hts gX11_ranked_X11_isAhead rfl rfl rfl (by decide +kernel) ⟨Nat.le_of_ble_eq_true rfl, Nat.le_of_ble_eq_true rfl⟩) (q_preV hK hP (ci := 11) (q0 := 0) rfl rfl rfl (q_preF hN hK hP hD)) rfl rfl hl.1 rfl (lv_room (Nat.le_of_ble_eq_true rfl)) dX11_ranked_74 ⟨Nat.le_of_ble_eq_true rfl, Nat.le_of_ble_eq_true rfl⟩) hD hS hA (fun r3 w1 H locs hw hP hD hS => ?_)
    obtain ⟨hq_, hw⟩ := hw; subst hw; subst hq_
    refine lv_if_eq (tgt := 84) hx hb dX11_ranked_77 (by decide) (fun c4 => ?_) (fun c4 => ?_)
    · have hB := if_p hB c4
      exact br_ranked_84 (hk20) (hk31) _ _ _ _ _ _ hB p e s0 m below meth c A E H locs ls hP hD hS (lv_sub hl [0, 1, 2, 3, 4, 5] rfl)
    · have hB := if_n hB c4
      exact br_ranked_80 (hk20) (hk31) _ _ _ _ _ hB p e s0 m below meth c A E H locs ls hP hD hS (lv_sub hl [0, 1, 2, 3, 5] rfl)
set_option maxHeartbeats 4000000 in
set_option maxRecDepth 100000 in
theorem br_ranked_31 {l : Launch} {dC : Nat → ClassId} {dI : Nat → Nat → Nat} {cB cI cJ cZ cS : ClassId} {h : Nat} {a : Nat → Nat} {as : List Value} {r : Int32} {s' : RS} {k20 : RS → Int32 → Int32 → Int32 → Option (Int32 × RS)} {k31 : RS → Int32 → Int32 → Int32 → Int32 → Int32 → Option (Int32 × RS)} (hk20 : ∀ (s : RS) (x1 : Int32) (x2 : Int32) (x3 : Int32), k20 s x1 x2 x3 = some (r, s') → BlkI l yX11_ranked wsX11_ranked ({ frames := 5, cells := 0, slots := 0, locals := 112 }) cX11_ranked 6 (some .int) (dC, dI) (tysA cB cI cJ cZ cS) as 20 (mwS cB cI cJ cZ h a s) [(0, .ref h), (1, .int x1), (2, .int x2), (3, .int x3)] [] (fun x u => x = r ∧ u = (mwS cB cI cJ cZ h a s'))) (hk31 : ∀ (s : RS) (x1 : Int32) (x2 : Int32) (x3 : Int32) (x4 : Int32) (x5 : Int32), k31 s x1 x2 x3 x4 x5 = some (r, s') → BlkI l yX11_ranked wsX11_ranked ({ frames := 5, cells := 0, slots := 0, locals := 112 }) cX11_ranked 6 (some .int) (dC, dI) (tysA cB cI cJ cZ cS) as 31 (mwS cB cI cJ cZ h a s) [(0, .ref h), (1, .int x1), (2, .int x2), (3, .int x3), (4, .int x4), (5, .int x5)] [] (fun x u => x = r ∧ u = (mwS cB cI cJ cZ h a s'))) (s : RS) (x1 : Int32) (x2 : Int32) (x3 : Int32) (x4 : Int32) (x5 : Int32) (hB : r_ranked_31 k20 k31 s x1 x2 x3 x4 x5 = some (r, s')) : BlkI l yX11_ranked wsX11_ranked ({ frames := 5, cells := 0, slots := 0, locals := 112 }) cX11_ranked 6 (some .int) (dC, dI) (tysA cB cI cJ cZ cS) as 31 (mwS cB cI cJ cZ h a s) [(0, .ref h), (1, .int x1), (2, .int x2), (3, .int x3), (4, .int x4), (5, .int x5)] [] (fun x u => x = r ∧ u = (mwS cB cI cJ cZ h a s')) := by
  intro p e s0 m below meth c A E H locs ls hP hD hS hl
  obtain ⟨C, hr, hlocks, hA, hK, hN⟩ := id E
  obtain ⟨hx, hb, hml, hown, hts⟩ := id C
  unfold r_ranked_31 at hB
  refine lv_iload hx hb dX11_ranked_31 (lv_at hl 5 rfl) ?_
  refine lv_aload_n hx hb dX11_ranked_33 rfl (lv_at hl 0 rfl) ?_
  obtain ⟨q_, s1, hc, hB⟩ := bindI_inv hB
  refine q_goiF (va_runV (As := []) (rest := [.int x5]) C (cr_guesses hc _) (cwV 0 hts gX11_ranked_X11_guesses rfl rfl rfl (by decide +kernel) ⟨Nat.le_of_ble_eq_true rfl, Nat.le_of_ble_eq_true rfl⟩) (q_preV hK hP (ci := 11) (q0 := 0) rfl rfl rfl (q_preF hN hK hP hD)) rfl rfl hl.1 rfl (lv_room (Nat.le_of_ble_eq_true rfl)) dX11_ranked_34 ⟨Nat.le_of_ble_eq_true rfl, Nat.le_of_ble_eq_true rfl⟩) hD hS hA (fun r2 w1 H locs hw hP hD hS => ?_)
  obtain ⟨hq_, hw⟩ := hw; subst hw; subst hq_
  refine lv_icmp_ge (tgt := 90) hx hb dX11_ranked_37 (by decide) (fun c3 => ?_) (fun c3 => ?_)
  · have hB := if_p hB c3
    refine lv_iload hx hb dX11_ranked_90 (lv_at hl 4 rfl) ?_
    refine lv_if_ge (tgt := 97) hx hb dX11_ranked_92 (by decide) (fun c4 => ?_) (fun c4 => ?_)
    · have hB := if_p hB c4
      refine lv_iload hx hb dX11_ranked_97 (lv_at hl 4 rfl) ?_
      refine lv_istore_n (lv' := [(2, .int x4), (0, .ref h), (1, .int x1), (3, .int x3), (4, .int x4), (5, .int x5)]) hx hb dX11_ranked_99 rfl hl (by decide) rfl (fun ls hl => ?_)
      refine lv_iinc (v := (x3 + 1)) (lv' := [(3, .int (x3 + 1)), (2, .int x4), (0, .ref h), (1, .int x1), (4, .int x4), (5, .int x5)]) hx hb dX11_ranked_100 hl (k := 3) rfl (rfl) (by decide) rfl (fun ls hl => ?_)
      refine lv_goto (tgt := 20) hx hb dX11_ranked_103 (by decide) ?_
      exact hk20 _ _ _ _ hB p e s0 m below meth c A E H locs ls hP hD hS (lv_sub hl [2, 3, 1, 0] rfl)
    · have hB := if_n hB c4
      refine lv_iconst (v := (-1)) hx hb dX11_ranked_95 (by decide) ?_
      exact q_iret C hr hlocks hK hP hD hS (Nat.le_of_ble_eq_true rfl) (Nat.le_of_ble_eq_true rfl) dX11_ranked_96 (by cases hB; exact ⟨rfl, rfl⟩)
  · have hB := if_n hB c3
    refine lv_aload_n hx hb dX11_ranked_40 rfl (lv_at hl 0 rfl) ?_
    refine q_get (v := .ref (a 50)) C inX11_ranked_X11 hK hP 0 rfl rfl 50 (by decide) rfl LX11_ranked_113 rfl dX11_ranked_41 ?_
    refine lv_iload hx hb dX11_ranked_44 (lv_at hl 5 rfl) ?_
    obtain ⟨g5, hB⟩ := guard_inv hB
    refine q_iald (x := (s1.f 50 (Int32.toNatClampNeg x5))) C hK hP 32 1 rfl rfl (vpb_in g5) dX11_ranked_46 rfl ?_
    refine lv_if_le (tgt := 84) hx hb dX11_ranked_47 (by decide) (fun c6 => ?_) (fun c6 => ?_)
    · have hB := if_p hB c6
      exact br_ranked_84 (hk20) (hk31) _ _ _ _ _ _ hB p e s0 m below meth c A E H locs ls hP hD hS (lv_sub hl [0, 1, 2, 3, 4, 5] rfl)
    · have hB := if_n hB c6
      refine lv_iload_n hx hb dX11_ranked_50 rfl (lv_at hl 2 rfl) ?_
      refine lv_if_lt (tgt := 64) hx hb dX11_ranked_51 (by decide) (fun c7 => ?_) (fun c7 => ?_)
      · have hB := if_p hB c7
        exact br_ranked_64 (hk20) (hk31) _ _ _ _ _ _ hB p e s0 m below meth c A E H locs ls hP hD hS (lv_sub hl [0, 1, 2, 3, 4, 5] rfl)
      · have hB := if_n hB c7
        refine lv_aload_n hx hb dX11_ranked_54 rfl (lv_at hl 0 rfl) ?_
        refine lv_iload_n hx hb dX11_ranked_55 rfl (lv_at hl 2 rfl) ?_
        refine lv_iload hx hb dX11_ranked_56 (lv_at hl 5 rfl) ?_
        obtain ⟨q_, s8, hc, hB⟩ := bindI_inv hB
        refine q_goiF (va_runV (As := [.int x2, .int x5]) (rest := []) C (cr_isAhead hc _) (cwV 2 hts gX11_ranked_X11_isAhead rfl rfl rfl (by decide +kernel) ⟨Nat.le_of_ble_eq_true rfl, Nat.le_of_ble_eq_true rfl⟩) (q_preV hK hP (ci := 11) (q0 := 0) rfl rfl rfl (q_preF hN hK hP hD)) rfl rfl hl.1 rfl (lv_room (Nat.le_of_ble_eq_true rfl)) dX11_ranked_58 ⟨Nat.le_of_ble_eq_true rfl, Nat.le_of_ble_eq_true rfl⟩) hD hS hA (fun r9 w1 H locs hw hP hD hS => ?_)
        obtain ⟨hq_, hw⟩ := hw; subst hw; subst hq_
        refine lv_if_eq (tgt := 84) hx hb dX11_ranked_61 (by decide) (fun c10 => ?_) (fun c10 => ?_)
        · have hB := if_p hB c10
          exact br_ranked_84 (hk20) (hk31) _ _ _ _ _ _ hB p e s0 m below meth c A E H locs ls hP hD hS (lv_sub hl [0, 1, 2, 3, 4, 5] rfl)
        · have hB := if_n hB c10
          exact br_ranked_64 (hk20) (hk31) _ _ _ _ _ _ hB p e s0 m below meth c A E H locs ls hP hD hS (lv_sub hl [0, 1, 2, 3, 4, 5] rfl)
theorem br_ranked_31L {l : Launch} {dC : Nat → ClassId} {dI : Nat → Nat → Nat} {cB cI cJ cZ cS : ClassId} {h : Nat} {a : Nat → Nat} {as : List Value} {r : Int32} {s' : RS} {k20 : RS → Int32 → Int32 → Int32 → Option (Int32 × RS)} (hk20 : ∀ (s : RS) (x1 : Int32) (x2 : Int32) (x3 : Int32), k20 s x1 x2 x3 = some (r, s') → BlkI l yX11_ranked wsX11_ranked ({ frames := 5, cells := 0, slots := 0, locals := 112 }) cX11_ranked 6 (some .int) (dC, dI) (tysA cB cI cJ cZ cS) as 20 (mwS cB cI cJ cZ h a s) [(0, .ref h), (1, .int x1), (2, .int x2), (3, .int x3)] [] (fun x u => x = r ∧ u = (mwS cB cI cJ cZ h a s'))) : ∀ (n : Nat) (s : RS) (x1 : Int32) (x2 : Int32) (x3 : Int32) (x4 : Int32) (x5 : Int32), r_ranked_31L k20 n s x1 x2 x3 x4 x5 = some (r, s') → BlkI l yX11_ranked wsX11_ranked ({ frames := 5, cells := 0, slots := 0, locals := 112 }) cX11_ranked 6 (some .int) (dC, dI) (tysA cB cI cJ cZ cS) as 31 (mwS cB cI cJ cZ h a s) [(0, .ref h), (1, .int x1), (2, .int x2), (3, .int x3), (4, .int x4), (5, .int x5)] [] (fun x u => x = r ∧ u = (mwS cB cI cJ cZ h a s')) := by
  intro n
  induction n with
  | zero => intro s x1 x2 x3 x4 x5 hB; exact none_ne hB
  | succ n ih => intro s x1 x2 x3 x4 x5 hB; exact br_ranked_31 hk20 ih _ _ _ _ _ _ hB
set_option maxHeartbeats 4000000 in
set_option maxRecDepth 100000 in
theorem br_ranked_20 {l : Launch} {dC : Nat → ClassId} {dI : Nat → Nat → Nat} {cB cI cJ cZ cS : ClassId} {h : Nat} {a : Nat → Nat} {as : List Value} {r : Int32} {s' : RS} {k20 : RS → Int32 → Int32 → Int32 → Option (Int32 × RS)} (hk20 : ∀ (s : RS) (x1 : Int32) (x2 : Int32) (x3 : Int32), k20 s x1 x2 x3 = some (r, s') → BlkI l yX11_ranked wsX11_ranked ({ frames := 5, cells := 0, slots := 0, locals := 112 }) cX11_ranked 6 (some .int) (dC, dI) (tysA cB cI cJ cZ cS) as 20 (mwS cB cI cJ cZ h a s) [(0, .ref h), (1, .int x1), (2, .int x2), (3, .int x3)] [] (fun x u => x = r ∧ u = (mwS cB cI cJ cZ h a s'))) (s : RS) (x1 : Int32) (x2 : Int32) (x3 : Int32) (hB : r_ranked_20 k20 s x1 x2 x3 = some (r, s')) : BlkI l yX11_ranked wsX11_ranked ({ frames := 5, cells := 0, slots := 0, locals := 112 }) cX11_ranked 6 (some .int) (dC, dI) (tysA cB cI cJ cZ cS) as 20 (mwS cB cI cJ cZ h a s) [(0, .ref h), (1, .int x1), (2, .int x2), (3, .int x3)] [] (fun x u => x = r ∧ u = (mwS cB cI cJ cZ h a s')) := by
  intro p e s0 m below meth c A E H locs ls hP hD hS hl
  obtain ⟨C, hr, hlocks, hA, hK, hN⟩ := id E
  obtain ⟨hx, hb, hml, hown, hts⟩ := id C
  unfold r_ranked_20 at hB
  refine lv_iload_n hx hb dX11_ranked_20 rfl (lv_at hl 3 rfl) ?_
  refine lv_iload_n hx hb dX11_ranked_21 rfl (lv_at hl 1 rfl) ?_
  refine lv_icmp_gt (tgt := 106) hx hb dX11_ranked_22 (by decide) (fun c1 => ?_) (fun c1 => ?_)
  · have hB := if_p hB c1
    refine lv_iload_n hx hb dX11_ranked_106 rfl (lv_at hl 2 rfl) ?_
    exact q_iret C hr hlocks hK hP hD hS (Nat.le_of_ble_eq_true rfl) (Nat.le_of_ble_eq_true rfl) dX11_ranked_107 (by cases hB; exact ⟨rfl, rfl⟩)
  · have hB := if_n hB c1
    refine lv_iconst (v := (-1)) hx hb dX11_ranked_25 (by decide) ?_
    refine lv_istore (lv' := [(4, .int (-1)), (0, .ref h), (1, .int x1), (2, .int x2), (3, .int x3)]) hx hb dX11_ranked_26 hl (by decide) rfl (fun ls hl => ?_)
    refine lv_iconst (v := 0) hx hb dX11_ranked_28 (by decide) ?_
    refine lv_istore (lv' := [(5, .int 0), (4, .int (-1)), (0, .ref h), (1, .int x1), (2, .int x2), (3, .int x3)]) hx hb dX11_ranked_29 hl (by decide) rfl (fun ls hl => ?_)
    exact br_ranked_31L (hk20) fu _ _ _ _ _ _ hB p e s0 m below meth c A E H locs ls hP hD hS (lv_sub hl [2, 3, 4, 5, 1, 0] rfl)
theorem br_ranked_20L {l : Launch} {dC : Nat → ClassId} {dI : Nat → Nat → Nat} {cB cI cJ cZ cS : ClassId} {h : Nat} {a : Nat → Nat} {as : List Value} {r : Int32} {s' : RS} : ∀ (n : Nat) (s : RS) (x1 : Int32) (x2 : Int32) (x3 : Int32), r_ranked_20L n s x1 x2 x3 = some (r, s') → BlkI l yX11_ranked wsX11_ranked ({ frames := 5, cells := 0, slots := 0, locals := 112 }) cX11_ranked 6 (some .int) (dC, dI) (tysA cB cI cJ cZ cS) as 20 (mwS cB cI cJ cZ h a s) [(0, .ref h), (1, .int x1), (2, .int x2), (3, .int x3)] [] (fun x u => x = r ∧ u = (mwS cB cI cJ cZ h a s')) := by
  intro n
  induction n with
  | zero => intro s x1 x2 x3 hB; exact none_ne hB
  | succ n ih => intro s x1 x2 x3 hB; exact br_ranked_20 ih _ _ _ _ hB
set_option maxHeartbeats 4000000 in
set_option maxRecDepth 100000 in
theorem br_ranked {l : Launch} {dC : Nat → ClassId} {dI : Nat → Nat → Nat} {cB cI cJ cZ cS : ClassId} {h : Nat} {a : Nat → Nat} {as : List Value} {r : Int32} {s' : RS} (s : RS) (x1 : Int32) (hB : r_ranked s x1 = some (r, s')) : BlkI l yX11_ranked wsX11_ranked ({ frames := 5, cells := 0, slots := 0, locals := 112 }) cX11_ranked 6 (some .int) (dC, dI) (tysA cB cI cJ cZ cS) as 0 (mwS cB cI cJ cZ h a s) [(0, .ref h), (1, .int x1)] [] (fun x u => x = r ∧ u = (mwS cB cI cJ cZ h a s')) := by
  intro p e s0 m below meth c A E H locs ls hP hD hS hl
  obtain ⟨C, hr, hlocks, hA, hK, hN⟩ := id E
  obtain ⟨hx, hb, hml, hown, hts⟩ := id C
  unfold r_ranked at hB
  refine lv_iload_n hx hb dX11_ranked_0 rfl (lv_at hl 1 rfl) ?_
  refine lv_iconst (v := 0) hx hb dX11_ranked_1 (by decide) ?_
  refine lv_bipush (v := 19) hx hb dX11_ranked_2 (by decide) ?_
  obtain ⟨q_, hc, hB⟩ := bindP_inv hB
  refine q_goi0 (va_runS (As := [.int x1, .int 0, .int 19]) (rest := []) C (cr_in hc _) (va_cwS 3 hts gX11_ranked_X11_in rfl rfl rfl (by decide +kernel) ⟨Nat.le_of_ble_eq_true rfl, Nat.le_of_ble_eq_true rfl⟩) (q_pre0 hN hK) rfl rfl hl.1 rfl (lv_room (Nat.le_of_ble_eq_true rfl)) dX11_ranked_4 ⟨Nat.le_of_ble_eq_true rfl, Nat.le_of_ble_eq_true rfl⟩) hP hD hS hA (fun r1 w1 H locs hw hP hS => ?_)
  subst hw
  refine lv_if_ne (tgt := 12) hx hb dX11_ranked_7 (by decide) (fun c2 => ?_) (fun c2 => ?_)
  · have hB := if_n hB c2
    refine lv_aload_n hx hb dX11_ranked_12 rfl (lv_at hl 0 rfl) ?_
    obtain ⟨s3, hc, hB⟩ := bindP_inv hB
    refine q_govF (va_runV (As := []) (rest := []) C (cr_fillsChances hc _) (cwV 0 hts gX11_ranked_X11_fillsChances rfl rfl rfl (by decide +kernel) ⟨Nat.le_of_ble_eq_true rfl, Nat.le_of_ble_eq_true rfl⟩) (q_preV hK hP (ci := 11) (q0 := 0) rfl rfl rfl (q_preF hN hK hP hD)) rfl rfl hl.1 rfl (lv_room (Nat.le_of_ble_eq_true rfl)) dX11_ranked_13 ⟨Nat.le_of_ble_eq_true rfl, Nat.le_of_ble_eq_true rfl⟩) hD hS hA (fun w1 H locs hw hP hD hS => ?_)
    subst hw
    refine lv_iconst (v := (-1)) hx hb dX11_ranked_16 (by decide) ?_
    refine lv_istore_n (lv' := [(2, .int (-1)), (0, .ref h), (1, .int x1)]) hx hb dX11_ranked_17 rfl hl (by decide) rfl (fun ls hl => ?_)
    refine lv_iconst (v := 0) hx hb dX11_ranked_18 (by decide) ?_
    refine lv_istore_n (lv' := [(3, .int 0), (2, .int (-1)), (0, .ref h), (1, .int x1)]) hx hb dX11_ranked_19 rfl hl (by decide) rfl (fun ls hl => ?_)
    exact br_ranked_20L fu _ _ _ _ hB p e s0 m below meth c A E H locs ls hP hD hS (lv_sub hl [2, 3, 1, 0] rfl)
  · have hB := if_p hB c2
    refine lv_iconst (v := (-1)) hx hb dX11_ranked_10 (by decide) ?_
    exact q_iret C hr hlocks hK hP hD hS (Nat.le_of_ble_eq_true rfl) (Nat.le_of_ble_eq_true rfl) dX11_ranked_11 (by cases hB; exact ⟨rfl, rfl⟩)
theorem cr_ranked {l : Launch} {dC : Nat → ClassId} {dI : Nat → Nat → Nat} {cB cI cJ cZ cS : ClassId} {h : Nat} {a : Nat → Nat} {r : Int32} {s' : RS} {s : RS} {x1 : Int32} (hB : r_ranked s x1 = some (r, s')) : CI l yX11_ranked wsX11_ranked ({ frames := 5, cells := 0, slots := 0, locals := 112 }) (dC, dI) (tysA cB cI cJ cZ cS) (mwS cB cI cJ cZ h a s) [.ref h, .int x1] (fun x u => x = r ∧ u = (mwS cB cI cJ cZ h a s')) :=
  CI_of (cc := cX11_ranked) (maxL := 6) (ret := (some .int)) (by decide) rfl (Nat.le_of_ble_eq_true rfl) (br_ranked _ _ hB)
theorem LX11_share_215 : Cond.fieldLink RX11 215 "GuessFerryModel" "live" "I" ∈ wsX11_share := by decide +kernel
theorem LX11_share_40 : Cond.fieldLink RX11 40 "GuessFerryModel" "waves" "[I" ∈ wsX11_share := by decide +kernel
theorem inX11_share_X11 : ∀ w ∈ u_ws RX11 TX11 58, w ∈ wsX11_share := by decide +kernel
set_option maxHeartbeats 4000000 in
set_option maxRecDepth 100000 in
theorem br_share_73 {l : Launch} {dC : Nat → ClassId} {dI : Nat → Nat → Nat} {cB cI cJ cZ cS : ClassId} {h : Nat} {a : Nat → Nat} {as : List Value} {r : Int32} {s' : RS} {k44 : RS → Int32 → Int32 → Int32 → Option (Int32 × RS)} (hk44 : ∀ (s : RS) (x1 : Int32) (x3 : Int32) (x4 : Int32), k44 s x1 x3 x4 = some (r, s') → BlkI l yX11_share wsX11_share ({ frames := 4, cells := 0, slots := 0, locals := 90 }) cX11_share 5 (some .int) (dC, dI) (tysA cB cI cJ cZ cS) as 44 (mwS cB cI cJ cZ h a s) [(0, .ref h), (1, .int x1), (3, .int x3), (4, .int x4)] [] (fun x u => x = r ∧ u = (mwS cB cI cJ cZ h a s'))) (s : RS) (x1 : Int32) (x3 : Int32) (x4 : Int32) (hB : r_share_73 k44 s x1 x3 x4 = some (r, s')) : BlkI l yX11_share wsX11_share ({ frames := 4, cells := 0, slots := 0, locals := 90 }) cX11_share 5 (some .int) (dC, dI) (tysA cB cI cJ cZ cS) as 73 (mwS cB cI cJ cZ h a s) [(0, .ref h), (1, .int x1), (3, .int x3), (4, .int x4)] [] (fun x u => x = r ∧ u = (mwS cB cI cJ cZ h a s')) := by
  intro p e s0 m below meth c A E H locs ls hP hD hS hl
  obtain ⟨C, hr, hlocks, hA, hK, hN⟩ := id E
  obtain ⟨hx, hb, hml, hown, hts⟩ := id C
  unfold r_share_73 at hB
  refine lv_iinc (v := (x4 + 1)) (lv' := [(4, .int (x4 + 1)), (0, .ref h), (1, .int x1), (3, .int x3)]) hx hb dX11_share_73 hl (k := 3) rfl (rfl) (by decide) rfl (fun ls hl => ?_)
  refine lv_goto (tgt := 44) hx hb dX11_share_76 (by decide) ?_
  exact hk44 _ _ _ _ hB p e s0 m below meth c A E H locs ls hP hD hS (lv_sub hl [1, 2, 3, 0] rfl)
set_option maxHeartbeats 4000000 in
set_option maxRecDepth 100000 in
theorem br_share_44 {l : Launch} {dC : Nat → ClassId} {dI : Nat → Nat → Nat} {cB cI cJ cZ cS : ClassId} {h : Nat} {a : Nat → Nat} {as : List Value} {r : Int32} {s' : RS} {k44 : RS → Int32 → Int32 → Int32 → Option (Int32 × RS)} (hk44 : ∀ (s : RS) (x1 : Int32) (x3 : Int32) (x4 : Int32), k44 s x1 x3 x4 = some (r, s') → BlkI l yX11_share wsX11_share ({ frames := 4, cells := 0, slots := 0, locals := 90 }) cX11_share 5 (some .int) (dC, dI) (tysA cB cI cJ cZ cS) as 44 (mwS cB cI cJ cZ h a s) [(0, .ref h), (1, .int x1), (3, .int x3), (4, .int x4)] [] (fun x u => x = r ∧ u = (mwS cB cI cJ cZ h a s'))) (s : RS) (x1 : Int32) (x3 : Int32) (x4 : Int32) (hB : r_share_44 k44 s x1 x3 x4 = some (r, s')) : BlkI l yX11_share wsX11_share ({ frames := 4, cells := 0, slots := 0, locals := 90 }) cX11_share 5 (some .int) (dC, dI) (tysA cB cI cJ cZ cS) as 44 (mwS cB cI cJ cZ h a s) [(0, .ref h), (1, .int x1), (3, .int x3), (4, .int x4)] [] (fun x u => x = r ∧ u = (mwS cB cI cJ cZ h a s')) := by
  intro p e s0 m below meth c A E H locs ls hP hD hS hl
  obtain ⟨C, hr, hlocks, hA, hK, hN⟩ := id E
  obtain ⟨hx, hb, hml, hown, hts⟩ := id C
  unfold r_share_44 at hB
  refine lv_iload hx hb dX11_share_44 (lv_at hl 3 rfl) ?_
  refine lv_aload_n hx hb dX11_share_46 rfl (lv_at hl 0 rfl) ?_
  refine q_get (v := .ref (a 20)) C inX11_share_X11 hK hP 0 rfl rfl 20 (by decide) rfl LX11_share_40 rfl dX11_share_47 ?_
  refine lv_aload_n hx hb dX11_share_50 rfl (lv_at hl 0 rfl) ?_
  refine q_get (v := .int (s.v 18)) C inX11_share_X11 hK hP 0 rfl rfl 18 (by decide) rfl LX11_share_215 rfl dX11_share_51 ?_
  obtain ⟨g1, hB⟩ := guard_inv hB
  refine q_iald (x := (s.f 20 (Int32.toNatClampNeg (s.v 18)))) C hK hP 8 1 rfl rfl (vpb_in g1) dX11_share_54 rfl ?_
  refine lv_icmp_ge (tgt := 79) hx hb dX11_share_55 (by decide) (fun c2 => ?_) (fun c2 => ?_)
  · have hB := if_p hB c2
    refine lv_iload_n hx hb dX11_share_79 rfl (lv_at hl 2 rfl) ?_
    exact q_iret C hr hlocks hK hP hD hS (Nat.le_of_ble_eq_true rfl) (Nat.le_of_ble_eq_true rfl) dX11_share_80 (by cases hB; exact ⟨rfl, rfl⟩)
  · have hB := if_n hB c2
    refine lv_iload hx hb dX11_share_58 (lv_at hl 3 rfl) ?_
    refine lv_iload_n hx hb dX11_share_60 rfl (lv_at hl 1 rfl) ?_
    refine lv_icmp_eq (tgt := 73) hx hb dX11_share_61 (by decide) (fun c3 => ?_) (fun c3 => ?_)
    · have hB := if_p hB c3
      exact br_share_73 (hk44) _ _ _ _ hB p e s0 m below meth c A E H locs ls hP hD hS (lv_sub hl [0, 1, 2, 3] rfl)
    · have hB := if_n hB c3
      refine lv_iload_n hx hb dX11_share_64 rfl (lv_at hl 2 rfl) ?_
      refine lv_aload_n hx hb dX11_share_65 rfl (lv_at hl 0 rfl) ?_
      refine lv_iload hx hb dX11_share_66 (lv_at hl 3 rfl) ?_
      obtain ⟨q_, s4, hc, hB⟩ := bindI_inv hB
      refine q_goiF (va_runV (As := [.int x4]) (rest := [.int x3]) C (cr_sumAt hc _) (cwV 1 hts gX11_share_X11_sumAt rfl rfl rfl (by decide +kernel) ⟨Nat.le_of_ble_eq_true rfl, Nat.le_of_ble_eq_true rfl⟩) (q_preV hK hP (ci := 11) (q0 := 0) rfl rfl rfl (q_preF hN hK hP hD)) rfl rfl hl.1 rfl (lv_room (Nat.le_of_ble_eq_true rfl)) dX11_share_68 ⟨Nat.le_of_ble_eq_true rfl, Nat.le_of_ble_eq_true rfl⟩) hD hS hA (fun r5 w1 H locs hw hP hD hS => ?_)
      obtain ⟨hq_, hw⟩ := hw; subst hw; subst hq_
      refine lv_imul hx hb dX11_share_71 ?_
      refine lv_istore_n (lv' := [(3, .int (x3 * r5)), (0, .ref h), (1, .int x1), (4, .int x4)]) hx hb dX11_share_72 rfl hl (by decide) rfl (fun ls hl => ?_)
      exact br_share_73 (hk44) _ _ _ _ hB p e s0 m below meth c A E H locs ls hP hD hS (lv_sub hl [1, 2, 0, 3] rfl)
theorem br_share_44L {l : Launch} {dC : Nat → ClassId} {dI : Nat → Nat → Nat} {cB cI cJ cZ cS : ClassId} {h : Nat} {a : Nat → Nat} {as : List Value} {r : Int32} {s' : RS} : ∀ (n : Nat) (s : RS) (x1 : Int32) (x3 : Int32) (x4 : Int32), r_share_44L n s x1 x3 x4 = some (r, s') → BlkI l yX11_share wsX11_share ({ frames := 4, cells := 0, slots := 0, locals := 90 }) cX11_share 5 (some .int) (dC, dI) (tysA cB cI cJ cZ cS) as 44 (mwS cB cI cJ cZ h a s) [(0, .ref h), (1, .int x1), (3, .int x3), (4, .int x4)] [] (fun x u => x = r ∧ u = (mwS cB cI cJ cZ h a s')) := by
  intro n
  induction n with
  | zero => intro s x1 x3 x4 hB; exact none_ne hB
  | succ n ih => intro s x1 x3 x4 hB; exact br_share_44 ih _ _ _ _ hB
set_option maxHeartbeats 4000000 in
set_option maxRecDepth 100000 in
theorem br_share_40 {l : Launch} {dC : Nat → ClassId} {dI : Nat → Nat → Nat} {cB cI cJ cZ cS : ClassId} {h : Nat} {a : Nat → Nat} {as : List Value} {r : Int32} {s' : RS} (s : RS) (x1 : Int32) (t0 : Int32) (hB : r_share_40 s x1 t0 = some (r, s')) : BlkI l yX11_share wsX11_share ({ frames := 4, cells := 0, slots := 0, locals := 90 }) cX11_share 5 (some .int) (dC, dI) (tysA cB cI cJ cZ cS) as 40 (mwS cB cI cJ cZ h a s) [(0, .ref h), (1, .int x1)] [.int t0] (fun x u => x = r ∧ u = (mwS cB cI cJ cZ h a s')) := by
  intro p e s0 m below meth c A E H locs ls hP hD hS hl
  obtain ⟨C, hr, hlocks, hA, hK, hN⟩ := id E
  obtain ⟨hx, hb, hml, hown, hts⟩ := id C
  unfold r_share_40 at hB
  refine lv_istore_n (lv' := [(3, .int t0), (0, .ref h), (1, .int x1)]) hx hb dX11_share_40 rfl hl (by decide) rfl (fun ls hl => ?_)
  refine lv_iconst (v := 0) hx hb dX11_share_41 (by decide) ?_
  refine lv_istore (lv' := [(4, .int 0), (3, .int t0), (0, .ref h), (1, .int x1)]) hx hb dX11_share_42 hl (by decide) rfl (fun ls hl => ?_)
  exact br_share_44L fu _ _ _ _ hB p e s0 m below meth c A E H locs ls hP hD hS (lv_sub hl [2, 3, 1, 0] rfl)
set_option maxHeartbeats 4000000 in
set_option maxRecDepth 100000 in
theorem br_share {l : Launch} {dC : Nat → ClassId} {dI : Nat → Nat → Nat} {cB cI cJ cZ cS : ClassId} {h : Nat} {a : Nat → Nat} {as : List Value} {r : Int32} {s' : RS} (s : RS) (x1 : Int32) (x2 : Int32) (hB : r_share s x1 x2 = some (r, s')) : BlkI l yX11_share wsX11_share ({ frames := 4, cells := 0, slots := 0, locals := 90 }) cX11_share 5 (some .int) (dC, dI) (tysA cB cI cJ cZ cS) as 0 (mwS cB cI cJ cZ h a s) [(0, .ref h), (1, .int x1), (2, .int x2)] [] (fun x u => x = r ∧ u = (mwS cB cI cJ cZ h a s')) := by
  intro p e s0 m below meth c A E H locs ls hP hD hS hl
  obtain ⟨C, hr, hlocks, hA, hK, hN⟩ := id E
  obtain ⟨hx, hb, hml, hown, hts⟩ := id C
  unfold r_share at hB
  refine lv_aload_n hx hb dX11_share_0 rfl (lv_at hl 0 rfl) ?_
  refine lv_iload_n hx hb dX11_share_1 rfl (lv_at hl 1 rfl) ?_
  obtain ⟨q_, s1, hc, hB⟩ := bindI_inv hB
  refine q_goiF (va_runV (As := [.int x1]) (rest := []) C (cr_isWave hc _) (cwV 1 hts gX11_share_X11_isWave rfl rfl rfl (by decide +kernel) ⟨Nat.le_of_ble_eq_true rfl, Nat.le_of_ble_eq_true rfl⟩) (q_preV hK hP (ci := 11) (q0 := 0) rfl rfl rfl (q_preF hN hK hP hD)) rfl rfl hl.1 rfl (lv_room (Nat.le_of_ble_eq_true rfl)) dX11_share_2 ⟨Nat.le_of_ble_eq_true rfl, Nat.le_of_ble_eq_true rfl⟩) hD hS hA (fun r2 w1 H locs hw hP hD hS => ?_)
  obtain ⟨hq_, hw⟩ := hw; subst hw; subst hq_
  refine lv_if_eq (tgt := 15) hx hb dX11_share_5 (by decide) (fun c3 => ?_) (fun c3 => ?_)
  · have hB := if_p hB c3
    refine lv_iconst (v := (-1)) hx hb dX11_share_15 (by decide) ?_
    exact q_iret C hr hlocks hK hP hD hS (Nat.le_of_ble_eq_true rfl) (Nat.le_of_ble_eq_true rfl) dX11_share_16 (by cases hB; exact ⟨rfl, rfl⟩)
  · have hB := if_n hB c3
    refine lv_iload_n hx hb dX11_share_8 rfl (lv_at hl 2 rfl) ?_
    obtain ⟨q_, hc, hB⟩ := bindP_inv hB
    refine q_goi0 (va_runS (As := [.int x2]) (rest := []) C (cr_isThing hc _) (va_cwS 1 hts gX11_share_X11_isThing rfl rfl rfl (by decide +kernel) ⟨Nat.le_of_ble_eq_true rfl, Nat.le_of_ble_eq_true rfl⟩) (q_pre0 hN hK) rfl rfl hl.1 rfl (lv_room (Nat.le_of_ble_eq_true rfl)) dX11_share_9 ⟨Nat.le_of_ble_eq_true rfl, Nat.le_of_ble_eq_true rfl⟩) hP hD hS hA (fun r4 w1 H locs hw hP hS => ?_)
    subst hw
    refine lv_if_ne (tgt := 17) hx hb dX11_share_12 (by decide) (fun c5 => ?_) (fun c5 => ?_)
    · have hB := if_n hB c5
      refine lv_aload_n hx hb dX11_share_17 rfl (lv_at hl 0 rfl) ?_
      obtain ⟨s6, hc, hB⟩ := bindP_inv hB
      refine q_govF (va_runV (As := []) (rest := []) C (cr_copies hc _) (cwV 0 hts gX11_share_X11_copies rfl rfl rfl (by decide +kernel) ⟨Nat.le_of_ble_eq_true rfl, Nat.le_of_ble_eq_true rfl⟩) (q_preV hK hP (ci := 11) (q0 := 0) rfl rfl rfl (q_preF hN hK hP hD)) rfl rfl hl.1 rfl (lv_room (Nat.le_of_ble_eq_true rfl)) dX11_share_18 ⟨Nat.le_of_ble_eq_true rfl, Nat.le_of_ble_eq_true rfl⟩) hD hS hA (fun w1 H locs hw hP hD hS => ?_)
      subst hw
      refine lv_aload_n hx hb dX11_share_21 rfl (lv_at hl 0 rfl) ?_
      refine lv_iload_n hx hb dX11_share_22 rfl (lv_at hl 1 rfl) ?_
      refine lv_iload_n hx hb dX11_share_23 rfl (lv_at hl 2 rfl) ?_
      obtain ⟨q_, s7, hc, hB⟩ := bindI_inv hB
      refine q_goiF (va_runV (As := [.int x1, .int x2]) (rest := []) C (cr_mayBe hc _) (cwV 2 hts gX11_share_X11_mayBe rfl rfl rfl (by decide +kernel) ⟨Nat.le_of_ble_eq_true rfl, Nat.le_of_ble_eq_true rfl⟩) (q_preV hK hP (ci := 11) (q0 := 0) rfl rfl rfl (q_preF hN hK hP hD)) rfl rfl hl.1 rfl (lv_room (Nat.le_of_ble_eq_true rfl)) dX11_share_24 ⟨Nat.le_of_ble_eq_true rfl, Nat.le_of_ble_eq_true rfl⟩) hD hS hA (fun r8 w1 H locs hw hP hD hS => ?_)
      obtain ⟨hq_, hw⟩ := hw; subst hw; subst hq_
      refine lv_if_eq (tgt := 39) hx hb dX11_share_27 (by decide) (fun c9 => ?_) (fun c9 => ?_)
      · have hB := if_p hB c9
        refine lv_iconst (v := 0) hx hb dX11_share_39 (by decide) ?_
        exact br_share_40 _ _ _ hB p e s0 m below meth c A E H locs ls hP hD hS (lv_sub hl [0, 1] rfl)
      · have hB := if_n hB c9
        refine lv_aload_n hx hb dX11_share_30 rfl (lv_at hl 0 rfl) ?_
        refine lv_iload_n hx hb dX11_share_31 rfl (lv_at hl 1 rfl) ?_
        refine lv_iload_n hx hb dX11_share_32 rfl (lv_at hl 2 rfl) ?_
        obtain ⟨q_, s10, hc, hB⟩ := bindI_inv hB
        refine q_goiF (va_runV (As := [.int x1, .int x2]) (rest := []) C (cr_oddsAt hc _) (cwV 2 hts gX11_share_X11_oddsAt rfl rfl rfl (by decide +kernel) ⟨Nat.le_of_ble_eq_true rfl, Nat.le_of_ble_eq_true rfl⟩) (q_preV hK hP (ci := 11) (q0 := 0) rfl rfl rfl (q_preF hN hK hP hD)) rfl rfl hl.1 rfl (lv_room (Nat.le_of_ble_eq_true rfl)) dX11_share_33 ⟨Nat.le_of_ble_eq_true rfl, Nat.le_of_ble_eq_true rfl⟩) hD hS hA (fun r11 w1 H locs hw hP hD hS => ?_)
        obtain ⟨hq_, hw⟩ := hw; subst hw; subst hq_
        refine lv_goto (tgt := 40) hx hb dX11_share_36 (by decide) ?_
        exact br_share_40 _ _ _ hB p e s0 m below meth c A E H locs ls hP hD hS (lv_sub hl [0, 1] rfl)
    · have hB := if_p hB c5
      refine lv_iconst (v := (-1)) hx hb dX11_share_15 (by decide) ?_
      exact q_iret C hr hlocks hK hP hD hS (Nat.le_of_ble_eq_true rfl) (Nat.le_of_ble_eq_true rfl) dX11_share_16 (by cases hB; exact ⟨rfl, rfl⟩)
theorem cr_share {l : Launch} {dC : Nat → ClassId} {dI : Nat → Nat → Nat} {cB cI cJ cZ cS : ClassId} {h : Nat} {a : Nat → Nat} {r : Int32} {s' : RS} {s : RS} {x1 : Int32} {x2 : Int32} (hB : r_share s x1 x2 = some (r, s')) : CI l yX11_share wsX11_share ({ frames := 4, cells := 0, slots := 0, locals := 90 }) (dC, dI) (tysA cB cI cJ cZ cS) (mwS cB cI cJ cZ h a s) [.ref h, .int x1, .int x2] (fun x u => x = r ∧ u = (mwS cB cI cJ cZ h a s')) :=
  CI_of (cc := cX11_share) (maxL := 5) (ret := (some .int)) (by decide) rfl (Nat.le_of_ble_eq_true rfl) (br_share _ _ _ hB)
theorem LX11_comesOver_101 : Cond.fieldLink RX11 101 "GuessFerryModel" "row" "[I" ∈ wsX11_comesOver := by decide +kernel
theorem inX11_comesOver_X11 : ∀ w ∈ u_ws RX11 TX11 58, w ∈ wsX11_comesOver := by decide +kernel
set_option maxHeartbeats 4000000 in
set_option maxRecDepth 100000 in
theorem br_comesOver_7 {l : Launch} {dC : Nat → ClassId} {dI : Nat → Nat → Nat} {cB cI cJ cZ cS : ClassId} {h : Nat} {a : Nat → Nat} {as : List Value} {r : Int32} {s' : RS} {k7 : RS → Int32 → Int32 → Int32 → Int32 → Option (Int32 × RS)} (hk7 : ∀ (s : RS) (x1 : Int32) (x2 : Int32) (x3 : Int32) (x4 : Int32), k7 s x1 x2 x3 x4 = some (r, s') → BlkI l yX11_comesOver wsX11_comesOver ({ frames := 7, cells := 0, slots := 0, locals := 161 }) cX11_comesOver 6 (some .boolean) (dC, dI) (tysA cB cI cJ cZ cS) as 7 (mwS cB cI cJ cZ h a s) [(0, .ref h), (1, .int x1), (2, .int x2), (3, .int x3), (4, .int x4)] [] (fun x u => x = r ∧ u = (mwS cB cI cJ cZ h a s'))) (s : RS) (x1 : Int32) (x2 : Int32) (x3 : Int32) (x4 : Int32) (hB : r_comesOver_7 k7 s x1 x2 x3 x4 = some (r, s')) : BlkI l yX11_comesOver wsX11_comesOver ({ frames := 7, cells := 0, slots := 0, locals := 161 }) cX11_comesOver 6 (some .boolean) (dC, dI) (tysA cB cI cJ cZ cS) as 7 (mwS cB cI cJ cZ h a s) [(0, .ref h), (1, .int x1), (2, .int x2), (3, .int x3), (4, .int x4)] [] (fun x u => x = r ∧ u = (mwS cB cI cJ cZ h a s')) := by
  intro p e s0 m below meth c A E H locs ls hP hD hS hl
  obtain ⟨C, hr, hlocks, hA, hK, hN⟩ := id E
  obtain ⟨hx, hb, hml, hown, hts⟩ := id C
  unfold r_comesOver_7 at hB
  refine lv_iload hx hb dX11_comesOver_7 (lv_at hl 4 rfl) ?_
  refine lv_iload_n hx hb dX11_comesOver_9 rfl (lv_at hl 3 rfl) ?_
  refine lv_icmp_ge (tgt := 57) hx hb dX11_comesOver_10 (by decide) (fun c1 => ?_) (fun c1 => ?_)
  · have hB := if_p hB c1
    refine lv_iconst (v := 0) hx hb dX11_comesOver_57 (by decide) ?_
    exact q_zret C hr hlocks (Or.inl rfl) hK hP hD hS (Nat.le_of_ble_eq_true rfl) (Nat.le_of_ble_eq_true rfl) dX11_comesOver_58 (by cases hB; exact ⟨rfl, rfl⟩)
  · have hB := if_n hB c1
    refine lv_aload_n hx hb dX11_comesOver_13 rfl (lv_at hl 0 rfl) ?_
    refine lv_iload_n hx hb dX11_comesOver_14 rfl (lv_at hl 1 rfl) ?_
    obtain ⟨q_, s2, hc, hB⟩ := bindI_inv hB
    refine q_goiF (va_runV (As := [.int x1]) (rest := []) C (cr_bestFor hc _) (cwV 1 hts gX11_comesOver_X11_bestFor rfl rfl rfl (by decide +kernel) ⟨Nat.le_of_ble_eq_true rfl, Nat.le_of_ble_eq_true rfl⟩) (q_preV hK hP (ci := 11) (q0 := 0) rfl rfl rfl (q_preF hN hK hP hD)) rfl rfl hl.1 rfl (lv_room (Nat.le_of_ble_eq_true rfl)) dX11_comesOver_15 ⟨Nat.le_of_ble_eq_true rfl, Nat.le_of_ble_eq_true rfl⟩) hD hS hA (fun r3 w1 H locs hw hP hD hS => ?_)
    obtain ⟨hq_, hw⟩ := hw; subst hw; subst hq_
    refine lv_istore (lv' := [(5, .int r3), (0, .ref h), (1, .int x1), (2, .int x2), (3, .int x3), (4, .int x4)]) hx hb dX11_comesOver_18 hl (by decide) rfl (fun ls hl => ?_)
    refine lv_iload hx hb dX11_comesOver_20 (lv_at hl 0 rfl) ?_
    refine lv_if_ge (tgt := 27) hx hb dX11_comesOver_22 (by decide) (fun c4 => ?_) (fun c4 => ?_)
    · have hB := if_p hB c4
      refine lv_aload_n hx hb dX11_comesOver_27 rfl (lv_at hl 1 rfl) ?_
      refine lv_iload_n hx hb dX11_comesOver_28 rfl (lv_at hl 2 rfl) ?_
      refine lv_iload hx hb dX11_comesOver_29 (lv_at hl 0 rfl) ?_
      refine lv_iload_n hx hb dX11_comesOver_31 rfl (lv_at hl 3 rfl) ?_
      obtain ⟨q_, s5, hc, hB⟩ := bindI_inv hB
      refine q_goiF (va_runV (As := [.int x1, .int r3, .int x2]) (rest := []) C (cr_goesBy hc _) (cwV 3 hts gX11_comesOver_X11_goesBy rfl rfl rfl (by decide +kernel) ⟨Nat.le_of_ble_eq_true rfl, Nat.le_of_ble_eq_true rfl⟩) (q_preV hK hP (ci := 11) (q0 := 0) rfl rfl rfl (q_preF hN hK hP hD)) rfl rfl hl.1 rfl (lv_room (Nat.le_of_ble_eq_true rfl)) dX11_comesOver_32 ⟨Nat.le_of_ble_eq_true rfl, Nat.le_of_ble_eq_true rfl⟩) hD hS hA (fun r6 w1 H locs hw hP hD hS => ?_)
      obtain ⟨hq_, hw⟩ := hw; subst hw; subst hq_
      refine lv_pop hx hb dX11_comesOver_35 rfl ?_
      refine lv_aload_n hx hb dX11_comesOver_36 rfl (lv_at hl 1 rfl) ?_
      refine q_get (v := .ref (a 44)) C inX11_comesOver_X11 hK hP 0 rfl rfl 44 (by decide) rfl LX11_comesOver_101 rfl dX11_comesOver_37 ?_
      refine lv_bipush (v := 15) hx hb dX11_comesOver_40 (by decide) ?_
      refine lv_iload_n hx hb dX11_comesOver_42 rfl (lv_at hl 2 rfl) ?_
      refine lv_iadd hx hb dX11_comesOver_43 ?_
      obtain ⟨g7, hB⟩ := guard_inv hB
      refine q_iald (x := (s5.f 44 (Int32.toNatClampNeg (15 + x1)))) C hK hP 28 1 rfl rfl (vpb_in g7) dX11_comesOver_44 rfl ?_
      refine lv_iconst (v := 2) hx hb dX11_comesOver_45 (by decide) ?_
      refine lv_icmp_ne (tgt := 51) hx hb dX11_comesOver_46 (by decide) (fun c8 => ?_) (fun c8 => ?_)
      · have hB := if_n hB c8
        refine lv_iinc (v := (x4 + 1)) (lv' := [(4, .int (x4 + 1)), (5, .int r3), (0, .ref h), (1, .int x1), (2, .int x2), (3, .int x3)]) hx hb dX11_comesOver_51 hl (k := 5) rfl (rfl) (by decide) rfl (fun ls hl => ?_)
        refine lv_goto (tgt := 7) hx hb dX11_comesOver_54 (by decide) ?_
        exact hk7 _ _ _ _ _ hB p e s0 m below meth c A E H locs ls hP hD hS (lv_sub hl [2, 3, 4, 5, 0] rfl)
      · have hB := if_p hB c8
        refine lv_iconst (v := 1) hx hb dX11_comesOver_49 (by decide) ?_
        exact q_zret C hr hlocks (Or.inr rfl) hK hP hD hS (Nat.le_of_ble_eq_true rfl) (Nat.le_of_ble_eq_true rfl) dX11_comesOver_50 (by cases hB; exact ⟨rfl, rfl⟩)
    · have hB := if_n hB c4
      refine lv_iconst (v := 0) hx hb dX11_comesOver_25 (by decide) ?_
      exact q_zret C hr hlocks (Or.inl rfl) hK hP hD hS (Nat.le_of_ble_eq_true rfl) (Nat.le_of_ble_eq_true rfl) dX11_comesOver_26 (by cases hB; exact ⟨rfl, rfl⟩)
theorem br_comesOver_7L {l : Launch} {dC : Nat → ClassId} {dI : Nat → Nat → Nat} {cB cI cJ cZ cS : ClassId} {h : Nat} {a : Nat → Nat} {as : List Value} {r : Int32} {s' : RS} : ∀ (n : Nat) (s : RS) (x1 : Int32) (x2 : Int32) (x3 : Int32) (x4 : Int32), r_comesOver_7L n s x1 x2 x3 x4 = some (r, s') → BlkI l yX11_comesOver wsX11_comesOver ({ frames := 7, cells := 0, slots := 0, locals := 161 }) cX11_comesOver 6 (some .boolean) (dC, dI) (tysA cB cI cJ cZ cS) as 7 (mwS cB cI cJ cZ h a s) [(0, .ref h), (1, .int x1), (2, .int x2), (3, .int x3), (4, .int x4)] [] (fun x u => x = r ∧ u = (mwS cB cI cJ cZ h a s')) := by
  intro n
  induction n with
  | zero => intro s x1 x2 x3 x4 hB; exact none_ne hB
  | succ n ih => intro s x1 x2 x3 x4 hB; exact br_comesOver_7 ih _ _ _ _ _ hB
set_option maxHeartbeats 4000000 in
set_option maxRecDepth 100000 in
theorem br_comesOver {l : Launch} {dC : Nat → ClassId} {dI : Nat → Nat → Nat} {cB cI cJ cZ cS : ClassId} {h : Nat} {a : Nat → Nat} {as : List Value} {r : Int32} {s' : RS} (s : RS) (x1 : Int32) (x2 : Int32) (x3 : Int32) (hB : r_comesOver s x1 x2 x3 = some (r, s')) : BlkI l yX11_comesOver wsX11_comesOver ({ frames := 7, cells := 0, slots := 0, locals := 161 }) cX11_comesOver 6 (some .boolean) (dC, dI) (tysA cB cI cJ cZ cS) as 0 (mwS cB cI cJ cZ h a s) [(0, .ref h), (1, .int x1), (2, .int x2), (3, .int x3)] [] (fun x u => x = r ∧ u = (mwS cB cI cJ cZ h a s')) := by
  intro p e s0 m below meth c A E H locs ls hP hD hS hl
  obtain ⟨C, hr, hlocks, hA, hK, hN⟩ := id E
  obtain ⟨hx, hb, hml, hown, hts⟩ := id C
  unfold r_comesOver at hB
  refine lv_aload_n hx hb dX11_comesOver_0 rfl (lv_at hl 0 rfl) ?_
  obtain ⟨s1, hc, hB⟩ := bindP_inv hB
  refine q_govF (va_runV (As := []) (rest := []) C (cr_copies hc _) (cwV 0 hts gX11_comesOver_X11_copies rfl rfl rfl (by decide +kernel) ⟨Nat.le_of_ble_eq_true rfl, Nat.le_of_ble_eq_true rfl⟩) (q_preV hK hP (ci := 11) (q0 := 0) rfl rfl rfl (q_preF hN hK hP hD)) rfl rfl hl.1 rfl (lv_room (Nat.le_of_ble_eq_true rfl)) dX11_comesOver_1 ⟨Nat.le_of_ble_eq_true rfl, Nat.le_of_ble_eq_true rfl⟩) hD hS hA (fun w1 H locs hw hP hD hS => ?_)
  subst hw
  refine lv_iconst (v := 0) hx hb dX11_comesOver_4 (by decide) ?_
  refine lv_istore (lv' := [(4, .int 0), (0, .ref h), (1, .int x1), (2, .int x2), (3, .int x3)]) hx hb dX11_comesOver_5 hl (by decide) rfl (fun ls hl => ?_)
  exact br_comesOver_7L fu _ _ _ _ _ hB p e s0 m below meth c A E H locs ls hP hD hS (lv_sub hl [1, 2, 3, 4, 0] rfl)
theorem cr_comesOver {l : Launch} {dC : Nat → ClassId} {dI : Nat → Nat → Nat} {cB cI cJ cZ cS : ClassId} {h : Nat} {a : Nat → Nat} {r : Int32} {s' : RS} {s : RS} {x1 : Int32} {x2 : Int32} {x3 : Int32} (hB : r_comesOver s x1 x2 x3 = some (r, s')) : CI l yX11_comesOver wsX11_comesOver ({ frames := 7, cells := 0, slots := 0, locals := 161 }) (dC, dI) (tysA cB cI cJ cZ cS) (mwS cB cI cJ cZ h a s) [.ref h, .int x1, .int x2, .int x3] (fun x u => x = r ∧ u = (mwS cB cI cJ cZ h a s')) :=
  CI_of (cc := cX11_comesOver) (maxL := 6) (ret := (some .boolean)) (by decide) rfl (Nat.le_of_ble_eq_true rfl) (br_comesOver _ _ _ _ hB)
