theorem ggX1_clear_X1_begin : GoodIn wsX1_clear wsX1_begin := gi_sub (fun w h => List.mem_cons_of_mem _ (List.mem_append_left _ (List.mem_append_right _ (List.mem_append_left _ h)))) gd_wsX1_begin
set_option maxRecDepth 20000 in
theorem gX1_clear_X1_begin : GoodIn wsX1_clear (wsV RX1 38 RX1 yX1_begin wsX1_begin) := goodIn_app (goodIn_r _ [2, 3, 4, 5] (by decide +kernel) (by decide +kernel)) ggX1_clear_X1_begin
theorem ggX1_clear_X1_putVar : GoodIn wsX1_clear wsX1_putVar := gi_sub (fun w h => List.mem_cons_of_mem _ (List.mem_append_left _ (List.mem_append_right _ (List.mem_append_right _ (List.mem_append_left _ h))))) gd_wsX1_putVar
set_option maxRecDepth 20000 in
theorem gX1_clear_X1_putVar : GoodIn wsX1_clear (wsV RX1 42 RX1 yX1_putVar wsX1_putVar) := goodIn_app (goodIn_r _ [6, 7, 8, 5] (by decide +kernel) (by decide +kernel)) ggX1_clear_X1_putVar
theorem ggX1_clear_X1_endPart : GoodIn wsX1_clear wsX1_endPart := gi_sub (fun w h => List.mem_cons_of_mem _ (List.mem_append_left _ (List.mem_append_right _ (List.mem_append_right _ (List.mem_append_right _ (List.mem_append_left _ h)))))) gd_wsX1_endPart
set_option maxRecDepth 20000 in
theorem gX1_clear_X1_endPart : GoodIn wsX1_clear (wsV RX1 45 RX1 yX1_endPart wsX1_endPart) := goodIn_app (goodIn_r _ [9, 10, 11, 5] (by decide +kernel) (by decide +kernel)) ggX1_clear_X1_endPart
theorem ggX1_clear_X1_putNumber : GoodIn wsX1_clear wsX1_putNumber := gi_sub (fun w h => List.mem_cons_of_mem _ (List.mem_append_left _ (List.mem_append_right _ (List.mem_append_right _ (List.mem_append_right _ (List.mem_append_right _ h)))))) gd_wsX1_putNumber
set_option maxRecDepth 20000 in
theorem gX1_clear_X1_putNumber : GoodIn wsX1_clear (wsV RX1 48 RX1 yX1_putNumber wsX1_putNumber) := goodIn_app (goodIn_r _ [12, 13, 14, 5] (by decide +kernel) (by decide +kernel)) ggX1_clear_X1_putNumber
theorem dX1_clear_0 : decode cX1_clear 0 = .ok (.aload_n 0, 1) := dc1_42 (by decide +kernel)
theorem dX1_clear_1 : decode cX1_clear 1 = .ok (.iconst 0, 1) := dc1_3 (by decide +kernel)
theorem dX1_clear_2 : decode cX1_clear 2 = .ok (.putfield 34, 3) := dcw_181 (by decide +kernel)
theorem dX1_clear_5 : decode cX1_clear 5 = .ok (.aload_n 0, 1) := dc1_42 (by decide +kernel)
theorem dX1_clear_6 : decode cX1_clear 6 = .ok (.iconst 0, 1) := dc1_3 (by decide +kernel)
theorem dX1_clear_7 : decode cX1_clear 7 = .ok (.invokevirtual 38, 3) := dcw_182 (by decide +kernel)
theorem dX1_clear_10 : decode cX1_clear 10 = .ok (.aload_n 0, 1) := dc1_42 (by decide +kernel)
theorem dX1_clear_11 : decode cX1_clear 11 = .ok (.iconst 2, 1) := dc1_5 (by decide +kernel)
theorem dX1_clear_12 : decode cX1_clear 12 = .ok (.invokevirtual 42, 3) := dcw_182 (by decide +kernel)
theorem dX1_clear_15 : decode cX1_clear 15 = .ok (.aload_n 0, 1) := dc1_42 (by decide +kernel)
theorem dX1_clear_16 : decode cX1_clear 16 = .ok (.invokevirtual 45, 3) := dcw_182 (by decide +kernel)
theorem dX1_clear_19 : decode cX1_clear 19 = .ok (.aload_n 0, 1) := dc1_42 (by decide +kernel)
theorem dX1_clear_20 : decode cX1_clear 20 = .ok (.iconst 1, 1) := dc1_4 (by decide +kernel)
theorem dX1_clear_21 : decode cX1_clear 21 = .ok (.invokevirtual 38, 3) := dcw_182 (by decide +kernel)
theorem dX1_clear_24 : decode cX1_clear 24 = .ok (.aload_n 0, 1) := dc1_42 (by decide +kernel)
theorem dX1_clear_25 : decode cX1_clear 25 = .ok (.iconst 1, 1) := dc1_4 (by decide +kernel)
theorem dX1_clear_26 : decode cX1_clear 26 = .ok (.invokevirtual 48, 3) := dcw_182 (by decide +kernel)
theorem dX1_clear_29 : decode cX1_clear 29 = .ok (.aload_n 0, 1) := dc1_42 (by decide +kernel)
theorem dX1_clear_30 : decode cX1_clear 30 = .ok (.invokevirtual 45, 3) := dcw_182 (by decide +kernel)
theorem dX1_clear_33 : decode cX1_clear 33 = .ok (.aload_n 0, 1) := dc1_42 (by decide +kernel)
theorem dX1_clear_34 : decode cX1_clear 34 = .ok (.iconst 2, 1) := dc1_5 (by decide +kernel)
theorem dX1_clear_35 : decode cX1_clear 35 = .ok (.invokevirtual 38, 3) := dcw_182 (by decide +kernel)
theorem dX1_clear_38 : decode cX1_clear 38 = .ok (.aload_n 0, 1) := dc1_42 (by decide +kernel)
theorem dX1_clear_39 : decode cX1_clear 39 = .ok (.iconst 1, 1) := dc1_4 (by decide +kernel)
theorem dX1_clear_40 : decode cX1_clear 40 = .ok (.invokevirtual 48, 3) := dcw_182 (by decide +kernel)
theorem dX1_clear_43 : decode cX1_clear 43 = .ok (.aload_n 0, 1) := dc1_42 (by decide +kernel)
theorem dX1_clear_44 : decode cX1_clear 44 = .ok (.invokevirtual 45, 3) := dcw_182 (by decide +kernel)
theorem dX1_clear_47 : decode cX1_clear 47 = .ok (.aload_n 0, 1) := dc1_42 (by decide +kernel)
theorem dX1_clear_48 : decode cX1_clear 48 = .ok (.iconst 3, 1) := dc1_6 (by decide +kernel)
theorem dX1_clear_49 : decode cX1_clear 49 = .ok (.invokevirtual 38, 3) := dcw_182 (by decide +kernel)
theorem dX1_clear_52 : decode cX1_clear 52 = .ok (.aload_n 0, 1) := dc1_42 (by decide +kernel)
theorem dX1_clear_53 : decode cX1_clear 53 = .ok (.iconst 0, 1) := dc1_3 (by decide +kernel)
theorem dX1_clear_54 : decode cX1_clear 54 = .ok (.invokevirtual 48, 3) := dcw_182 (by decide +kernel)
theorem dX1_clear_57 : decode cX1_clear 57 = .ok (.aload_n 0, 1) := dc1_42 (by decide +kernel)
theorem dX1_clear_58 : decode cX1_clear 58 = .ok (.invokevirtual 45, 3) := dcw_182 (by decide +kernel)
theorem dX1_clear_61 : decode cX1_clear 61 = .ok (.return_, 1) := dc1_177 (by decide +kernel)
theorem ggX10_rank_X5_hasGuess : GoodIn wsX10_rank wsX5_hasGuess := gi_sub (fun w h => List.mem_cons_of_mem _ (List.mem_append_left _ (List.mem_append_left _ (List.mem_append_left _ (List.mem_append_left _ (List.mem_append_left _ (List.mem_append_right _ (List.mem_append_left _ h)))))))) gd_wsX5_hasGuess
set_option maxRecDepth 20000 in
theorem gX10_rank_X5_hasGuess_n170 : GoodIn wsX10_rank (wsX5_hasGuess) := ggX10_rank_X5_hasGuess
theorem ggX10_rank_X2_oddsOf : GoodIn wsX10_rank wsX2_oddsOf := gi_sub (fun w h => List.mem_cons_of_mem _ (List.mem_append_left _ (List.mem_append_left _ (List.mem_append_left _ (List.mem_append_left _ (List.mem_append_left _ (List.mem_append_right _ (List.mem_append_right _ (List.mem_append_left _ h))))))))) gd_wsX2_oddsOf
set_option maxRecDepth 20000 in
theorem gX10_rank_X2_oddsOf_n200 : GoodIn wsX10_rank (wsX2_oddsOf) := ggX10_rank_X2_oddsOf
theorem ggX10_rank_X2_casesAheadOf : GoodIn wsX10_rank wsX2_casesAheadOf := gi_sub (fun w h => List.mem_cons_of_mem _ (List.mem_append_left _ (List.mem_append_left _ (List.mem_append_left _ (List.mem_append_left _ (List.mem_append_left _ (List.mem_append_right _ (List.mem_append_right _ (List.mem_append_right _ h))))))))) gd_wsX2_casesAheadOf
set_option maxRecDepth 20000 in
theorem gX10_rank_X2_casesAheadOf_n221 : GoodIn wsX10_rank (wsX2_casesAheadOf) := ggX10_rank_X2_casesAheadOf
theorem dX10_rank_0 : decode cX10_rank 0 = .ok (.aload_n 0, 1) := dc1_42 (by decide +kernel)
theorem dX10_rank_1 : decode cX10_rank 1 = .ok (.getfield 19, 3) := dcw_180 (by decide +kernel)
theorem dX10_rank_4 : decode cX10_rank 4 = .ok (.iload_n 1, 1) := dc1_27 (by decide +kernel)
theorem dX10_rank_5 : decode cX10_rank 5 = .ok (.invokevirtual 170, 3) := dcw_182 (by decide +kernel)
theorem dX10_rank_8 : decode cX10_rank 8 = .ok (.ifCond .ne 5, 3) := dcs_154 (n := 5) (by decide +kernel)
theorem dX10_rank_11 : decode cX10_rank 11 = .ok (.iconst (-1), 1) := dc1_2 (by decide +kernel)
theorem dX10_rank_12 : decode cX10_rank 12 = .ok (.ireturn, 1) := dc1_172 (by decide +kernel)
theorem dX10_rank_13 : decode cX10_rank 13 = .ok (.aload_n 0, 1) := dc1_42 (by decide +kernel)
theorem dX10_rank_14 : decode cX10_rank 14 = .ok (.getfield 63, 3) := dcw_180 (by decide +kernel)
theorem dX10_rank_17 : decode cX10_rank 17 = .ok (.aload_n 0, 1) := dc1_42 (by decide +kernel)
theorem dX10_rank_18 : decode cX10_rank 18 = .ok (.getfield 35, 3) := dcw_180 (by decide +kernel)
theorem dX10_rank_21 : decode cX10_rank 21 = .ok (.iload_n 1, 1) := dc1_27 (by decide +kernel)
theorem dX10_rank_22 : decode cX10_rank 22 = .ok (.invokevirtual 200, 3) := dcw_182 (by decide +kernel)
theorem dX10_rank_25 : decode cX10_rank 25 = .ok (.istore_n 2, 1) := dc1_61 (by decide +kernel)
theorem dX10_rank_26 : decode cX10_rank 26 = .ok (.iload_n 2, 1) := dc1_28 (by decide +kernel)
theorem dX10_rank_27 : decode cX10_rank 27 = .ok (.ifCond .ne 8, 3) := dcs_154 (n := 8) (by decide +kernel)
theorem dX10_rank_30 : decode cX10_rank 30 = .ok (.bipush (-2), 2) := dcb_16 (n := 254) (by decide +kernel)
theorem dX10_rank_32 : decode cX10_rank 32 = .ok (.goto 16, 3) := dcs_167 (n := 16) (by decide +kernel)
theorem dX10_rank_35 : decode cX10_rank 35 = .ok (.aload_n 0, 1) := dc1_42 (by decide +kernel)
theorem dX10_rank_36 : decode cX10_rank 36 = .ok (.getfield 63, 3) := dcw_180 (by decide +kernel)
theorem dX10_rank_39 : decode cX10_rank 39 = .ok (.aload_n 0, 1) := dc1_42 (by decide +kernel)
theorem dX10_rank_40 : decode cX10_rank 40 = .ok (.getfield 35, 3) := dcw_180 (by decide +kernel)
theorem dX10_rank_43 : decode cX10_rank 43 = .ok (.iload_n 1, 1) := dc1_27 (by decide +kernel)
theorem dX10_rank_44 : decode cX10_rank 44 = .ok (.iload_n 2, 1) := dc1_28 (by decide +kernel)
theorem dX10_rank_45 : decode cX10_rank 45 = .ok (.invokevirtual 221, 3) := dcw_182 (by decide +kernel)
theorem dX10_rank_48 : decode cX10_rank 48 = .ok (.ireturn, 1) := dc1_172 (by decide +kernel)
theorem ggX10_ranked_X2_caseAtRank : GoodIn wsX10_ranked wsX2_caseAtRank := gi_sub (fun w h => List.mem_cons_of_mem _ (List.mem_append_left _ (List.mem_append_left _ (List.mem_append_left _ (List.mem_append_left _ (List.mem_append_left _ (List.mem_append_right _ h))))))) gd_wsX2_caseAtRank
set_option maxRecDepth 20000 in
theorem gX10_ranked_X2_caseAtRank_n224 : GoodIn wsX10_ranked (wsX2_caseAtRank) := ggX10_ranked_X2_caseAtRank
theorem dX10_ranked_0 : decode cX10_ranked 0 = .ok (.iload_n 1, 1) := dc1_27 (by decide +kernel)
theorem dX10_ranked_1 : decode cX10_ranked 1 = .ok (.ifCond .lt 9, 3) := dcs_155 (n := 9) (by decide +kernel)
theorem dX10_ranked_4 : decode cX10_ranked 4 = .ok (.iload_n 1, 1) := dc1_27 (by decide +kernel)
theorem dX10_ranked_5 : decode cX10_ranked 5 = .ok (.bipush 20, 2) := dcb_16 (n := 20) (by decide +kernel)
theorem dX10_ranked_7 : decode cX10_ranked 7 = .ok (.if_icmp .lt 7, 3) := dcs_161 (n := 7) (by decide +kernel)
theorem dX10_ranked_10 : decode cX10_ranked 10 = .ok (.iconst (-1), 1) := dc1_2 (by decide +kernel)
theorem dX10_ranked_11 : decode cX10_ranked 11 = .ok (.goto 15, 3) := dcs_167 (n := 15) (by decide +kernel)
theorem dX10_ranked_14 : decode cX10_ranked 14 = .ok (.aload_n 0, 1) := dc1_42 (by decide +kernel)
theorem dX10_ranked_15 : decode cX10_ranked 15 = .ok (.getfield 63, 3) := dcw_180 (by decide +kernel)
theorem dX10_ranked_18 : decode cX10_ranked 18 = .ok (.aload_n 0, 1) := dc1_42 (by decide +kernel)
theorem dX10_ranked_19 : decode cX10_ranked 19 = .ok (.getfield 35, 3) := dcw_180 (by decide +kernel)
theorem dX10_ranked_22 : decode cX10_ranked 22 = .ok (.iload_n 1, 1) := dc1_27 (by decide +kernel)
theorem dX10_ranked_23 : decode cX10_ranked 23 = .ok (.invokevirtual 224, 3) := dcw_182 (by decide +kernel)
theorem dX10_ranked_26 : decode cX10_ranked 26 = .ok (.ireturn, 1) := dc1_172 (by decide +kernel)
theorem ggX10_alike_X5_hasGuess : GoodIn wsX10_alike wsX5_hasGuess := gi_sub (fun w h => List.mem_cons_of_mem _ (List.mem_append_left _ (List.mem_append_left _ (List.mem_append_right _ (List.mem_append_left _ h))))) gd_wsX5_hasGuess
set_option maxRecDepth 20000 in
theorem gX10_alike_X5_hasGuess_n170 : GoodIn wsX10_alike (wsX5_hasGuess) := ggX10_alike_X5_hasGuess
theorem ggX10_alike_X10_thingIn : GoodIn wsX10_alike wsX10_thingIn := gi_sub (fun w h => List.mem_cons_of_mem _ (List.mem_append_left _ (List.mem_append_left _ (List.mem_append_right _ (List.mem_append_right _ h))))) gd_wsX10_thingIn
set_option maxRecDepth 20000 in
theorem gX10_alike_X10_thingIn : GoodIn wsX10_alike (va_wsS RX10 232 yX10_thingIn wsX10_thingIn) := goodIn_app (goodIn_of _ (by decide +kernel)) ggX10_alike_X10_thingIn
theorem dX10_alike_0 : decode cX10_alike 0 = .ok (.aload_n 0, 1) := dc1_42 (by decide +kernel)
theorem dX10_alike_1 : decode cX10_alike 1 = .ok (.getfield 19, 3) := dcw_180 (by decide +kernel)
theorem dX10_alike_4 : decode cX10_alike 4 = .ok (.iload_n 1, 1) := dc1_27 (by decide +kernel)
theorem dX10_alike_5 : decode cX10_alike 5 = .ok (.invokevirtual 170, 3) := dcw_182 (by decide +kernel)
theorem dX10_alike_8 : decode cX10_alike 8 = .ok (.ifCond .eq 14, 3) := dcs_153 (n := 14) (by decide +kernel)
theorem dX10_alike_11 : decode cX10_alike 11 = .ok (.aload_n 0, 1) := dc1_42 (by decide +kernel)
theorem dX10_alike_12 : decode cX10_alike 12 = .ok (.getfield 19, 3) := dcw_180 (by decide +kernel)
theorem dX10_alike_15 : decode cX10_alike 15 = .ok (.iload_n 2, 1) := dc1_28 (by decide +kernel)
theorem dX10_alike_16 : decode cX10_alike 16 = .ok (.invokevirtual 170, 3) := dcw_182 (by decide +kernel)
theorem dX10_alike_19 : decode cX10_alike 19 = .ok (.ifCond .ne 5, 3) := dcs_154 (n := 5) (by decide +kernel)
theorem dX10_alike_22 : decode cX10_alike 22 = .ok (.iconst (-1), 1) := dc1_2 (by decide +kernel)
theorem dX10_alike_23 : decode cX10_alike 23 = .ok (.ireturn, 1) := dc1_172 (by decide +kernel)
theorem dX10_alike_24 : decode cX10_alike 24 = .ok (.iconst 0, 1) := dc1_3 (by decide +kernel)
theorem dX10_alike_25 : decode cX10_alike 25 = .ok (.istore_n 3, 1) := dc1_62 (by decide +kernel)
theorem dX10_alike_26 : decode cX10_alike 26 = .ok (.iload_n 3, 1) := dc1_29 (by decide +kernel)
theorem dX10_alike_27 : decode cX10_alike 27 = .ok (.aload_n 0, 1) := dc1_42 (by decide +kernel)
theorem dX10_alike_28 : decode cX10_alike 28 = .ok (.getfield 19, 3) := dcw_180 (by decide +kernel)
theorem dX10_alike_31 : decode cX10_alike 31 = .ok (.getfield 167, 3) := dcw_180 (by decide +kernel)
theorem dX10_alike_34 : decode cX10_alike 34 = .ok (.if_icmp .ge 22, 3) := dcs_162 (n := 22) (by decide +kernel)
theorem dX10_alike_37 : decode cX10_alike 37 = .ok (.iload_n 1, 1) := dc1_27 (by decide +kernel)
theorem dX10_alike_38 : decode cX10_alike 38 = .ok (.iload_n 3, 1) := dc1_29 (by decide +kernel)
theorem dX10_alike_39 : decode cX10_alike 39 = .ok (.invokestatic 232, 3) := dcw_184 (by decide +kernel)
theorem dX10_alike_42 : decode cX10_alike 42 = .ok (.iload_n 2, 1) := dc1_28 (by decide +kernel)
theorem dX10_alike_43 : decode cX10_alike 43 = .ok (.iload_n 3, 1) := dc1_29 (by decide +kernel)
theorem dX10_alike_44 : decode cX10_alike 44 = .ok (.invokestatic 232, 3) := dcw_184 (by decide +kernel)
theorem dX10_alike_47 : decode cX10_alike 47 = .ok (.if_icmp .ne 9, 3) := dcs_160 (n := 9) (by decide +kernel)
theorem dX10_alike_50 : decode cX10_alike 50 = .ok (.iinc 3 1, 3) := dc_iinc (m := 1) (by decide +kernel)
theorem dX10_alike_53 : decode cX10_alike 53 = .ok (.goto (-27), 3) := dcs_167 (n := 65509) (by decide +kernel)
theorem dX10_alike_56 : decode cX10_alike 56 = .ok (.iload_n 3, 1) := dc1_29 (by decide +kernel)
theorem dX10_alike_57 : decode cX10_alike 57 = .ok (.ireturn, 1) := dc1_172 (by decide +kernel)
theorem ggX10_spread_X5_hasWave : GoodIn wsX10_spread wsX5_hasWave := gi_sub (fun w h => List.mem_cons_of_mem _ (List.mem_append_left _ (List.mem_append_left _ (List.mem_append_left _ (List.mem_append_left _ (List.mem_append_left _ (List.mem_append_right _ (List.mem_append_left _ h)))))))) gd_wsX5_hasWave
set_option maxRecDepth 20000 in
theorem gX10_spread_X5_hasWave_n108 : GoodIn wsX10_spread (wsX5_hasWave) := ggX10_spread_X5_hasWave
theorem ggX10_spread_X2_oddsApart : GoodIn wsX10_spread wsX2_oddsApart := gi_sub (fun w h => List.mem_cons_of_mem _ (List.mem_append_left _ (List.mem_append_left _ (List.mem_append_left _ (List.mem_append_left _ (List.mem_append_left _ (List.mem_append_right _ (List.mem_append_right _ h)))))))) gd_wsX2_oddsApart
set_option maxRecDepth 20000 in
theorem gX10_spread_X2_oddsApart_n238 : GoodIn wsX10_spread (wsX2_oddsApart) := ggX10_spread_X2_oddsApart
theorem dX10_spread_0 : decode cX10_spread 0 = .ok (.aload_n 0, 1) := dc1_42 (by decide +kernel)
theorem dX10_spread_1 : decode cX10_spread 1 = .ok (.getfield 19, 3) := dcw_180 (by decide +kernel)
theorem dX10_spread_4 : decode cX10_spread 4 = .ok (.iload_n 1, 1) := dc1_27 (by decide +kernel)
theorem dX10_spread_5 : decode cX10_spread 5 = .ok (.invokevirtual 108, 3) := dcw_182 (by decide +kernel)
theorem dX10_spread_8 : decode cX10_spread 8 = .ok (.ifCond .eq 18, 3) := dcs_153 (n := 18) (by decide +kernel)
theorem dX10_spread_11 : decode cX10_spread 11 = .ok (.aload_n 0, 1) := dc1_42 (by decide +kernel)
theorem dX10_spread_12 : decode cX10_spread 12 = .ok (.getfield 63, 3) := dcw_180 (by decide +kernel)
theorem dX10_spread_15 : decode cX10_spread 15 = .ok (.aload_n 0, 1) := dc1_42 (by decide +kernel)
theorem dX10_spread_16 : decode cX10_spread 16 = .ok (.getfield 35, 3) := dcw_180 (by decide +kernel)
theorem dX10_spread_19 : decode cX10_spread 19 = .ok (.iload_n 1, 1) := dc1_27 (by decide +kernel)
theorem dX10_spread_20 : decode cX10_spread 20 = .ok (.invokevirtual 238, 3) := dcw_182 (by decide +kernel)
theorem dX10_spread_23 : decode cX10_spread 23 = .ok (.goto 4, 3) := dcs_167 (n := 4) (by decide +kernel)
theorem dX10_spread_26 : decode cX10_spread 26 = .ok (.iconst (-1), 1) := dc1_2 (by decide +kernel)
theorem dX10_spread_27 : decode cX10_spread 27 = .ok (.ireturn, 1) := dc1_172 (by decide +kernel)
theorem ggX10_open_X0_mayBe : GoodIn wsX10_open wsX0_mayBe := gi_sub (fun w h => List.mem_cons_of_mem _ (List.mem_append_left _ (List.mem_append_left _ (List.mem_append_left _ (List.mem_append_left _ (List.mem_append_right _ (List.mem_append_left _ h))))))) gd_wsX0_mayBe
set_option maxRecDepth 20000 in
theorem gX10_open_X0_mayBe_n111 : GoodIn wsX10_open (wsX0_mayBe) := ggX10_open_X0_mayBe
theorem ggX10_open_J6_bitCount_0f7a4 : GoodIn wsX10_open wsJ6_bitCount_0f7a4 := gi_sub (fun w h => List.mem_cons_of_mem _ (List.mem_append_left _ (List.mem_append_left _ (List.mem_append_left _ (List.mem_append_left _ (List.mem_append_right _ (List.mem_append_right _ h))))))) gd_wsJ6_bitCount_0f7a4
set_option maxRecDepth 20000 in
theorem gX10_open_J6_bitCount_0f7a4 : GoodIn wsX10_open (va_wsS RX10 247 yJ6_bitCount_0f7a4 wsJ6_bitCount_0f7a4) := goodIn_app (goodIn_of _ (by decide +kernel)) ggX10_open_J6_bitCount_0f7a4
theorem dX10_open_0 : decode cX10_open 0 = .ok (.iconst 0, 1) := dc1_3 (by decide +kernel)
theorem dX10_open_1 : decode cX10_open 1 = .ok (.istore_n 1, 1) := dc1_60 (by decide +kernel)
theorem dX10_open_2 : decode cX10_open 2 = .ok (.iconst 0, 1) := dc1_3 (by decide +kernel)
theorem dX10_open_3 : decode cX10_open 3 = .ok (.istore_n 2, 1) := dc1_61 (by decide +kernel)
theorem dX10_open_4 : decode cX10_open 4 = .ok (.iload_n 2, 1) := dc1_28 (by decide +kernel)
theorem dX10_open_5 : decode cX10_open 5 = .ok (.aload_n 0, 1) := dc1_42 (by decide +kernel)
theorem dX10_open_6 : decode cX10_open 6 = .ok (.getfield 19, 3) := dcw_180 (by decide +kernel)
theorem dX10_open_9 : decode cX10_open 9 = .ok (.getfield 167, 3) := dcw_180 (by decide +kernel)
theorem dX10_open_12 : decode cX10_open 12 = .ok (.if_icmp .ge 34, 3) := dcs_162 (n := 34) (by decide +kernel)
theorem dX10_open_15 : decode cX10_open 15 = .ok (.aload_n 0, 1) := dc1_42 (by decide +kernel)
theorem dX10_open_16 : decode cX10_open 16 = .ok (.getfield 54, 3) := dcw_180 (by decide +kernel)
theorem dX10_open_19 : decode cX10_open 19 = .ok (.aload_n 0, 1) := dc1_42 (by decide +kernel)
theorem dX10_open_20 : decode cX10_open 20 = .ok (.getfield 35, 3) := dcw_180 (by decide +kernel)
theorem dX10_open_23 : decode cX10_open 23 = .ok (.iload_n 2, 1) := dc1_28 (by decide +kernel)
theorem dX10_open_24 : decode cX10_open 24 = .ok (.invokevirtual 111, 3) := dcw_182 (by decide +kernel)
theorem dX10_open_27 : decode cX10_open 27 = .ok (.invokestatic 247, 3) := dcw_184 (by decide +kernel)
theorem dX10_open_30 : decode cX10_open 30 = .ok (.iconst 1, 1) := dc1_4 (by decide +kernel)
theorem dX10_open_31 : decode cX10_open 31 = .ok (.if_icmp .le 9, 3) := dcs_164 (n := 9) (by decide +kernel)
theorem dX10_open_34 : decode cX10_open 34 = .ok (.iload_n 1, 1) := dc1_27 (by decide +kernel)
theorem dX10_open_35 : decode cX10_open 35 = .ok (.iconst 1, 1) := dc1_4 (by decide +kernel)
theorem dX10_open_36 : decode cX10_open 36 = .ok (.iload_n 2, 1) := dc1_28 (by decide +kernel)
theorem dX10_open_37 : decode cX10_open 37 = .ok (.ishl, 1) := dc1_120 (by decide +kernel)
theorem dX10_open_38 : decode cX10_open 38 = .ok (.ior, 1) := dc1_128 (by decide +kernel)
theorem dX10_open_39 : decode cX10_open 39 = .ok (.istore_n 1, 1) := dc1_60 (by decide +kernel)
theorem dX10_open_40 : decode cX10_open 40 = .ok (.iinc 2 1, 3) := dc_iinc (m := 1) (by decide +kernel)
theorem dX10_open_43 : decode cX10_open 43 = .ok (.goto (-39), 3) := dcs_167 (n := 65497) (by decide +kernel)
theorem dX10_open_46 : decode cX10_open 46 = .ok (.iload_n 1, 1) := dc1_27 (by decide +kernel)
theorem dX10_open_47 : decode cX10_open 47 = .ok (.ireturn, 1) := dc1_172 (by decide +kernel)
theorem ggX10_buoysLying_J6_bitCount_0f7a4 : GoodIn wsX10_buoysLying wsJ6_bitCount_0f7a4 := gi_sub (fun w h => List.mem_cons_of_mem _ (List.mem_append_left _ (List.mem_append_left _ (List.mem_append_left _ (List.mem_append_right _ h))))) gd_wsJ6_bitCount_0f7a4
set_option maxRecDepth 20000 in
theorem gX10_buoysLying_J6_bitCount_0f7a4 : GoodIn wsX10_buoysLying (va_wsS RX10 247 yJ6_bitCount_0f7a4 wsJ6_bitCount_0f7a4) := goodIn_app (goodIn_of _ (by decide +kernel)) ggX10_buoysLying_J6_bitCount_0f7a4
theorem dX10_buoysLying_0 : decode cX10_buoysLying 0 = .ok (.iconst 0, 1) := dc1_3 (by decide +kernel)
theorem dX10_buoysLying_1 : decode cX10_buoysLying 1 = .ok (.istore_n 1, 1) := dc1_60 (by decide +kernel)
theorem dX10_buoysLying_2 : decode cX10_buoysLying 2 = .ok (.iconst 0, 1) := dc1_3 (by decide +kernel)
theorem dX10_buoysLying_3 : decode cX10_buoysLying 3 = .ok (.istore_n 2, 1) := dc1_61 (by decide +kernel)
theorem dX10_buoysLying_4 : decode cX10_buoysLying 4 = .ok (.iload_n 2, 1) := dc1_28 (by decide +kernel)
theorem dX10_buoysLying_5 : decode cX10_buoysLying 5 = .ok (.aload_n 0, 1) := dc1_42 (by decide +kernel)
theorem dX10_buoysLying_6 : decode cX10_buoysLying 6 = .ok (.getfield 19, 3) := dcw_180 (by decide +kernel)
theorem dX10_buoysLying_9 : decode cX10_buoysLying 9 = .ok (.getfield 167, 3) := dcw_180 (by decide +kernel)
theorem dX10_buoysLying_12 : decode cX10_buoysLying 12 = .ok (.if_icmp .ge 24, 3) := dcs_162 (n := 24) (by decide +kernel)
theorem dX10_buoysLying_15 : decode cX10_buoysLying 15 = .ok (.iload_n 1, 1) := dc1_27 (by decide +kernel)
theorem dX10_buoysLying_16 : decode cX10_buoysLying 16 = .ok (.aload_n 0, 1) := dc1_42 (by decide +kernel)
theorem dX10_buoysLying_17 : decode cX10_buoysLying 17 = .ok (.getfield 35, 3) := dcw_180 (by decide +kernel)
theorem dX10_buoysLying_20 : decode cX10_buoysLying 20 = .ok (.getfield 119, 3) := dcw_180 (by decide +kernel)
theorem dX10_buoysLying_23 : decode cX10_buoysLying 23 = .ok (.iload_n 2, 1) := dc1_28 (by decide +kernel)
theorem dX10_buoysLying_24 : decode cX10_buoysLying 24 = .ok (.iaload, 1) := dc1_46 (by decide +kernel)
theorem dX10_buoysLying_25 : decode cX10_buoysLying 25 = .ok (.invokestatic 247, 3) := dcw_184 (by decide +kernel)
theorem dX10_buoysLying_28 : decode cX10_buoysLying 28 = .ok (.iadd, 1) := dc1_96 (by decide +kernel)
theorem dX10_buoysLying_29 : decode cX10_buoysLying 29 = .ok (.istore_n 1, 1) := dc1_60 (by decide +kernel)
theorem dX10_buoysLying_30 : decode cX10_buoysLying 30 = .ok (.iinc 2 1, 3) := dc_iinc (m := 1) (by decide +kernel)
theorem dX10_buoysLying_33 : decode cX10_buoysLying 33 = .ok (.goto (-29), 3) := dcs_167 (n := 65507) (by decide +kernel)
theorem dX10_buoysLying_36 : decode cX10_buoysLying 36 = .ok (.iload_n 1, 1) := dc1_27 (by decide +kernel)
theorem dX10_buoysLying_37 : decode cX10_buoysLying 37 = .ok (.ireturn, 1) := dc1_172 (by decide +kernel)
theorem ggX10_lot_X10_stirred : GoodIn wsX10_lot wsX10_stirred := gi_sub (fun w h => List.mem_cons_of_mem _ (List.mem_append_right _ h)) gd_wsX10_stirred
set_option maxRecDepth 20000 in
theorem gX10_lot_X10_stirred : GoodIn wsX10_lot (va_wsS RX10 322 yX10_stirred wsX10_stirred) := goodIn_app (goodIn_of _ (by decide +kernel)) ggX10_lot_X10_stirred
theorem dX10_lot_0 : decode cX10_lot 0 = .ok (.iload_n 0, 1) := dc1_26 (by decide +kernel)
theorem dX10_lot_1 : decode cX10_lot 1 = .ok (.ifCond .gt 5, 3) := dcs_157 (n := 5) (by decide +kernel)
theorem dX10_lot_4 : decode cX10_lot 4 = .ok (.iconst 0, 1) := dc1_3 (by decide +kernel)
theorem dX10_lot_5 : decode cX10_lot 5 = .ok (.ireturn, 1) := dc1_172 (by decide +kernel)
theorem dX10_lot_6 : decode cX10_lot 6 = .ok (.iload_n 1, 1) := dc1_27 (by decide +kernel)
theorem dX10_lot_7 : decode cX10_lot 7 = .ok (.sipush 173, 3) := dcs_17 (n := 173) (by decide +kernel)
theorem dX10_lot_10 : decode cX10_lot 10 = .ok (.invokestatic 322, 3) := dcw_184 (by decide +kernel)
theorem dX10_lot_13 : decode cX10_lot 13 = .ok (.iload_n 2, 1) := dc1_28 (by decide +kernel)
theorem dX10_lot_14 : decode cX10_lot 14 = .ok (.invokestatic 322, 3) := dcw_184 (by decide +kernel)
theorem dX10_lot_17 : decode cX10_lot 17 = .ok (.istore_n 3, 1) := dc1_62 (by decide +kernel)
theorem dX10_lot_18 : decode cX10_lot 18 = .ok (.iload_n 3, 1) := dc1_29 (by decide +kernel)
theorem dX10_lot_19 : decode cX10_lot 19 = .ok (.iconst 1, 1) := dc1_4 (by decide +kernel)
theorem dX10_lot_20 : decode cX10_lot 20 = .ok (.iushr, 1) := dc1_124 (by decide +kernel)
theorem dX10_lot_21 : decode cX10_lot 21 = .ok (.iload_n 0, 1) := dc1_26 (by decide +kernel)
theorem dX10_lot_22 : decode cX10_lot 22 = .ok (.irem, 1) := dc1_112 (by decide +kernel)
theorem dX10_lot_23 : decode cX10_lot 23 = .ok (.ireturn, 1) := dc1_172 (by decide +kernel)
theorem LX10_rank_19 : Cond.fieldLink RX10 19 "GuessFerry" "sound" "LGuessFerry$Sound;" ∈ wsX10_rank := by decide +kernel
theorem LX10_rank_35 : Cond.fieldLink RX10 35 "GuessFerry" "now" "LGuessFerry$Standing;" ∈ wsX10_rank := by decide +kernel
theorem LX10_rank_63 : Cond.fieldLink RX10 63 "GuessFerry" "outlook" "LGuessFerry$Outlook;" ∈ wsX10_rank := by decide +kernel
theorem LX10_rank_E_X2_casesAheadOf : Cond.selects RX2 yX2_casesAheadOf yX2_casesAheadOf ∈ wsX10_rank := by decide +kernel
theorem LX10_rank_E_X2_oddsOf : Cond.selects RX2 yX2_oddsOf yX2_oddsOf ∈ wsX10_rank := by decide +kernel
theorem LX10_rank_E_X5_hasGuess : Cond.selects RX5 yX5_hasGuess yX5_hasGuess ∈ wsX10_rank := by decide +kernel
theorem LX10_rank_I_X2 : Cond.initialized RX2 ∈ wsX10_rank := by decide +kernel
theorem LX10_rank_I_X5 : Cond.initialized RX5 ∈ wsX10_rank := by decide +kernel
theorem LX10_rank_N_X2_casesAheadOf : Cond.instanceMethod yX2_casesAheadOf ∈ wsX10_rank := by decide +kernel
theorem LX10_rank_N_X2_oddsOf : Cond.instanceMethod yX2_oddsOf ∈ wsX10_rank := by decide +kernel
theorem LX10_rank_N_X5_hasGuess : Cond.instanceMethod yX5_hasGuess ∈ wsX10_rank := by decide +kernel
theorem inX10_rank_X10 : ∀ w ∈ u_ws RX10 TX10 9, w ∈ wsX10_rank := by decide +kernel
set_option maxHeartbeats 4000000 in
set_option maxRecDepth 100000 in
theorem bkX10_rank {l : Launch} {dC : Nat → ClassId} {dI : Nat → Nat → Nat} {cB cI cJ cZ cS : ClassId} {a b b2 c0 : Nat → Nat} {rg sl : Nat → Option Nat} {as : List Value} {r : Int32} {s' : XS} (s : XS) (x1 : Int32) (hB : kX10_rank s x1 = some (r, s')) : BlkI l yX10_rank wsX10_rank ({ frames := 5, cells := 0, slots := 0, locals := 125 }) cX10_rank 3 (some .int) (dC, dI) (tysA cB cI cJ cZ cS) as 0 (wX cB cI cJ cZ cS a b b2 c0 rg sl s) [(0, .ref (c0 0)), (1, .int x1)] [] (fun x u => x = r ∧ u = (wX cB cI cJ cZ cS a b b2 c0 rg sl s')) := by
  intro p e s0 m below meth c A E H locs ls hP hD hS hl
  obtain ⟨C, hr, hlocks, hA, hK, hN⟩ := id E
  obtain ⟨hx, hb, hml, hown, hts⟩ := id C
  unfold kX10_rank at hB
  refine lv_aload_n hx hb dX10_rank_0 rfl (lv_at hl 0 rfl) ?_
  refine q_get (v := .ref (a 2)) C inX10_rank_X10 hK hP 0 rfl rfl 1 (by decide) rfl LX10_rank_19 rfl dX10_rank_1 ?_
  refine lv_iload_n hx hb dX10_rank_4 rfl (lv_at hl 1 rfl) ?_
  obtain ⟨q_, s1, hc, hB⟩ := bindI_inv hB
  refine q_goi (wr := ((wG cZ cS a b b2 c0 rg sl s.g) ++ (wD cI b2 s.t) ++ (wD cI b s.n))) (va_runVN (As := [.int x1]) (rest := []) C (ckX5_hasGuess hc _) ⟨va_cnB 1 hts gX10_rank_X5_hasGuess_n170 rfl rfl rfl (hN _ nwM_X10_170 rfl) (hts _ LX10_rank_I_X5) (by decide +kernel) ⟨Nat.le_of_ble_eq_true rfl, Nat.le_of_ble_eq_true rfl⟩, hts _ LX10_rank_N_X5_hasGuess, hts _ LX10_rank_E_X5_hasGuess⟩ (q_preV hK hP (ci := 5) (q0 := 19) rfl rfl rfl (q_pre hN hK hP hD [17, 18, 19, 20, 21, 22, 23, 24, 25, 26, 27, 28, 29, 30, 31, 32, 33, 34, 35, 36, 37, 38, 39, 40, 41, 42, 43, 44, 45, 46, 47, 48, 49, 50, 51, 52, 53, 54, 55, 56, 57, 58, 59, 60, 61, 62, 63] rfl (by decide))) rfl rfl hl.1 rfl (lv_room (Nat.le_of_ble_eq_true rfl)) dX10_rank_5 ⟨Nat.le_of_ble_eq_true rfl, Nat.le_of_ble_eq_true rfl⟩) hP hD hS hA [17, 18, 19, 20, 21, 22, 23, 24, 25, 26, 27, 28, 29, 30, 31, 32, 33, 34, 35, 36, 37, 38, 39, 40, 41, 42, 43, 44, 45, 46, 47, 48, 49, 50, 51, 52, 53, 54, 55, 56, 57, 58, 59, 60, 61, 62, 63] [0, 1, 2, 3, 4, 5, 6, 7, 8, 9, 10, 11, 12, 13, 14, 15, 16] rfl rfl (by decide) (by decide) (fun r2 w1 H locs hw hP hD hS => ?_)
  obtain ⟨hq_, hw⟩ := hw; subst hw; subst hq_
  obtain ⟨s3, hs4, hB⟩ := letS_inv hB
  have hP : va_P (dC, dI) vwCl (wX cB cI cJ cZ cS a b b2 c0 rg sl s3) H := by subst hs4; exact hP
  have hD : va_D A (wX cB cI cJ cZ cS a b b2 c0 rg sl s3) := by subst hs4; exact hD
  refine lv_if_ne (tgt := 13) hx hb dX10_rank_8 (by decide) (fun c5 => ?_) (fun c5 => ?_)
  · have hB := if_n hB c5
    refine lv_aload_n hx hb dX10_rank_13 rfl (lv_at hl 0 rfl) ?_
    refine q_get (v := .ref (a 36)) C inX10_rank_X10 hK hP 0 rfl rfl 7 (by decide) rfl LX10_rank_63 rfl dX10_rank_14 ?_
    refine lv_aload_n hx hb dX10_rank_17 rfl (lv_at hl 0 rfl) ?_
    refine q_get (v := .ref (b 0)) C inX10_rank_X10 hK hP 0 rfl rfl 3 (by decide) rfl LX10_rank_35 rfl dX10_rank_18 ?_
    refine lv_iload_n hx hb dX10_rank_21 rfl (lv_at hl 1 rfl) ?_
    obtain ⟨q_, s6, hc, hB⟩ := bindI_inv hB
    refine q_goi (wr := ((wG cZ cS a b b2 c0 rg sl s3.g) ++ (wD cI b2 s3.t))) (va_runVN (As := [.ref (b 0), .int x1]) (rest := []) C (ckX2_oddsOf hc _) ⟨va_cnB 2 hts gX10_rank_X2_oddsOf_n200 rfl rfl rfl (hN _ nwM_X10_200 rfl) (hts _ LX10_rank_I_X2) (by decide +kernel) ⟨Nat.le_of_ble_eq_true rfl, Nat.le_of_ble_eq_true rfl⟩, hts _ LX10_rank_N_X2_oddsOf, hts _ LX10_rank_E_X2_oddsOf⟩ (q_preV hK hP (ci := 2) (q0 := 53) rfl rfl rfl (q_pre hN hK hP hD [11, 12, 13, 14, 15, 16, 17, 18, 19, 20, 21, 22, 23, 24, 25, 26, 27, 28, 29, 30, 31, 32, 33, 34, 35, 36, 37, 38, 39, 40, 41, 42, 43, 44, 45, 46, 47, 48, 49, 50, 51, 52, 53, 54, 55, 56, 57, 58, 59, 60, 61, 62, 63] rfl (by decide))) rfl rfl hl.1 rfl (lv_room (Nat.le_of_ble_eq_true rfl)) dX10_rank_22 ⟨Nat.le_of_ble_eq_true rfl, Nat.le_of_ble_eq_true rfl⟩) hP hD hS hA [11, 12, 13, 14, 15, 16, 17, 18, 19, 20, 21, 22, 23, 24, 25, 26, 27, 28, 29, 30, 31, 32, 33, 34, 35, 36, 37, 38, 39, 40, 41, 42, 43, 44, 45, 46, 47, 48, 49, 50, 51, 52, 53, 54, 55, 56, 57, 58, 59, 60, 61, 62, 63] [0, 1, 2, 3, 4, 5, 6, 7, 8, 9, 10] rfl rfl (by decide) (by decide) (fun r7 w1 H locs hw hP hD hS => ?_)
    obtain ⟨hq_, hw⟩ := hw; subst hw; subst hq_
    obtain ⟨s8, hs9, hB⟩ := letS_inv hB
    have hP : va_P (dC, dI) vwCl (wX cB cI cJ cZ cS a b b2 c0 rg sl s8) H := by subst hs9; exact hP
    have hD : va_D A (wX cB cI cJ cZ cS a b b2 c0 rg sl s8) := by subst hs9; exact hD
    refine lv_istore_n (lv' := [(2, .int r7), (0, .ref (c0 0)), (1, .int x1)]) hx hb dX10_rank_25 rfl hl (by decide) rfl (fun ls hl => ?_)
    refine lv_iload_n hx hb dX10_rank_26 rfl (lv_at hl 0 rfl) ?_
    refine lv_if_ne (tgt := 35) hx hb dX10_rank_27 (by decide) (fun c10 => ?_) (fun c10 => ?_)
    · have hB := if_n hB c10
      refine lv_aload_n hx hb dX10_rank_35 rfl (lv_at hl 1 rfl) ?_
      refine q_get (v := .ref (a 36)) C inX10_rank_X10 hK hP 0 rfl rfl 7 (by decide) rfl LX10_rank_63 rfl dX10_rank_36 ?_
      refine lv_aload_n hx hb dX10_rank_39 rfl (lv_at hl 1 rfl) ?_
      refine q_get (v := .ref (b 0)) C inX10_rank_X10 hK hP 0 rfl rfl 3 (by decide) rfl LX10_rank_35 rfl dX10_rank_40 ?_
      refine lv_iload_n hx hb dX10_rank_43 rfl (lv_at hl 2 rfl) ?_
      refine lv_iload_n hx hb dX10_rank_44 rfl (lv_at hl 0 rfl) ?_
      obtain ⟨q_, s11, hc, hB⟩ := bindI_inv hB
      refine q_goi (wr := ((wG cZ cS a b b2 c0 rg sl s8.g) ++ (wD cI b2 s8.t))) (va_runVN (As := [.ref (b 0), .int x1, .int r7]) (rest := []) C (ckX2_casesAheadOf hc _) ⟨va_cnB 3 hts gX10_rank_X2_casesAheadOf_n221 rfl rfl rfl (hN _ nwM_X10_221 rfl) (hts _ LX10_rank_I_X2) (by decide +kernel) ⟨Nat.le_of_ble_eq_true rfl, Nat.le_of_ble_eq_true rfl⟩, hts _ LX10_rank_N_X2_casesAheadOf, hts _ LX10_rank_E_X2_casesAheadOf⟩ (q_preV hK hP (ci := 2) (q0 := 53) rfl rfl rfl (q_pre hN hK hP hD [11, 12, 13, 14, 15, 16, 17, 18, 19, 20, 21, 22, 23, 24, 25, 26, 27, 28, 29, 30, 31, 32, 33, 34, 35, 36, 37, 38, 39, 40, 41, 42, 43, 44, 45, 46, 47, 48, 49, 50, 51, 52, 53, 54, 55, 56, 57, 58, 59, 60, 61, 62, 63] rfl (by decide))) rfl rfl hl.1 rfl (lv_room (Nat.le_of_ble_eq_true rfl)) dX10_rank_45 ⟨Nat.le_of_ble_eq_true rfl, Nat.le_of_ble_eq_true rfl⟩) hP hD hS hA [11, 12, 13, 14, 15, 16, 17, 18, 19, 20, 21, 22, 23, 24, 25, 26, 27, 28, 29, 30, 31, 32, 33, 34, 35, 36, 37, 38, 39, 40, 41, 42, 43, 44, 45, 46, 47, 48, 49, 50, 51, 52, 53, 54, 55, 56, 57, 58, 59, 60, 61, 62, 63] [0, 1, 2, 3, 4, 5, 6, 7, 8, 9, 10] rfl rfl (by decide) (by decide) (fun r12 w1 H locs hw hP hD hS => ?_)
      obtain ⟨hq_, hw⟩ := hw; subst hw; subst hq_
      obtain ⟨s13, hs14, hB⟩ := letS_inv hB
      have hP : va_P (dC, dI) vwCl (wX cB cI cJ cZ cS a b b2 c0 rg sl s13) H := by subst hs14; exact hP
      have hD : va_D A (wX cB cI cJ cZ cS a b b2 c0 rg sl s13) := by subst hs14; exact hD
      exact q_iret C hr hlocks hK hP hD hS (Nat.le_of_ble_eq_true rfl) (Nat.le_of_ble_eq_true rfl) dX10_rank_48 (by cases hB; exact ⟨rfl, rfl⟩)
    · have hB := if_p hB c10
      refine lv_bipush (v := (-2)) hx hb dX10_rank_30 (by decide) ?_
      refine lv_goto (tgt := 48) hx hb dX10_rank_32 (by decide) ?_
      exact q_iret C hr hlocks hK hP hD hS (Nat.le_of_ble_eq_true rfl) (Nat.le_of_ble_eq_true rfl) dX10_rank_48 (by cases hB; exact ⟨rfl, rfl⟩)
  · have hB := if_p hB c5
    refine lv_iconst (v := (-1)) hx hb dX10_rank_11 (by decide) ?_
    exact q_iret C hr hlocks hK hP hD hS (Nat.le_of_ble_eq_true rfl) (Nat.le_of_ble_eq_true rfl) dX10_rank_12 (by cases hB; exact ⟨rfl, rfl⟩)
theorem ckX10_rank {l : Launch} {dC : Nat → ClassId} {dI : Nat → Nat → Nat} {cB cI cJ cZ cS : ClassId} {a b b2 c0 : Nat → Nat} {rg sl : Nat → Option Nat} {r : Int32} {s' : XS} {s : XS} {x1 : Int32} (hB : kX10_rank s x1 = some (r, s')) : CI l yX10_rank wsX10_rank ({ frames := 5, cells := 0, slots := 0, locals := 125 }) (dC, dI) (tysA cB cI cJ cZ cS) (wX cB cI cJ cZ cS a b b2 c0 rg sl s) [.ref (c0 0), .int x1] (fun x u => x = r ∧ u = (wX cB cI cJ cZ cS a b b2 c0 rg sl s')) :=
  CI_of (cc := cX10_rank) (maxL := 3) (ret := (some .int)) (by decide) rfl (Nat.le_of_ble_eq_true rfl) (bkX10_rank _ _ hB)
theorem LX10_ranked_35 : Cond.fieldLink RX10 35 "GuessFerry" "now" "LGuessFerry$Standing;" ∈ wsX10_ranked := by decide +kernel
theorem LX10_ranked_63 : Cond.fieldLink RX10 63 "GuessFerry" "outlook" "LGuessFerry$Outlook;" ∈ wsX10_ranked := by decide +kernel
theorem LX10_ranked_E_X2_caseAtRank : Cond.selects RX2 yX2_caseAtRank yX2_caseAtRank ∈ wsX10_ranked := by decide +kernel
theorem LX10_ranked_I_X2 : Cond.initialized RX2 ∈ wsX10_ranked := by decide +kernel
theorem LX10_ranked_N_X2_caseAtRank : Cond.instanceMethod yX2_caseAtRank ∈ wsX10_ranked := by decide +kernel
theorem inX10_ranked_X10 : ∀ w ∈ u_ws RX10 TX10 9, w ∈ wsX10_ranked := by decide +kernel
set_option maxHeartbeats 4000000 in
set_option maxRecDepth 100000 in
theorem bkX10_ranked {l : Launch} {dC : Nat → ClassId} {dI : Nat → Nat → Nat} {cB cI cJ cZ cS : ClassId} {a b b2 c0 : Nat → Nat} {rg sl : Nat → Option Nat} {as : List Value} {r : Int32} {s' : XS} (s : XS) (x1 : Int32) (hB : kX10_ranked s x1 = some (r, s')) : BlkI l yX10_ranked wsX10_ranked ({ frames := 5, cells := 0, slots := 0, locals := 123 }) cX10_ranked 2 (some .int) (dC, dI) (tysA cB cI cJ cZ cS) as 0 (wX cB cI cJ cZ cS a b b2 c0 rg sl s) [(0, .ref (c0 0)), (1, .int x1)] [] (fun x u => x = r ∧ u = (wX cB cI cJ cZ cS a b b2 c0 rg sl s')) := by
  intro p e s0 m below meth c A E H locs ls hP hD hS hl
  obtain ⟨C, hr, hlocks, hA, hK, hN⟩ := id E
  obtain ⟨hx, hb, hml, hown, hts⟩ := id C
  unfold kX10_ranked at hB
  refine lv_iload_n hx hb dX10_ranked_0 rfl (lv_at hl 1 rfl) ?_
  refine lv_if_lt (tgt := 10) hx hb dX10_ranked_1 (by decide) (fun c1 => ?_) (fun c1 => ?_)
  · have hB := if_p hB c1
    refine lv_iconst (v := (-1)) hx hb dX10_ranked_10 (by decide) ?_
    refine lv_goto (tgt := 26) hx hb dX10_ranked_11 (by decide) ?_
    exact q_iret C hr hlocks hK hP hD hS (Nat.le_of_ble_eq_true rfl) (Nat.le_of_ble_eq_true rfl) dX10_ranked_26 (by cases hB; exact ⟨rfl, rfl⟩)
  · have hB := if_n hB c1
    refine lv_iload_n hx hb dX10_ranked_4 rfl (lv_at hl 1 rfl) ?_
    refine lv_bipush (v := 20) hx hb dX10_ranked_5 (by decide) ?_
    refine lv_icmp_lt (tgt := 14) hx hb dX10_ranked_7 (by decide) (fun c2 => ?_) (fun c2 => ?_)
    · have hB := if_p hB c2
      refine lv_aload_n hx hb dX10_ranked_14 rfl (lv_at hl 0 rfl) ?_
      refine q_get (v := .ref (a 36)) C inX10_ranked_X10 hK hP 0 rfl rfl 7 (by decide) rfl LX10_ranked_63 rfl dX10_ranked_15 ?_
      refine lv_aload_n hx hb dX10_ranked_18 rfl (lv_at hl 0 rfl) ?_
      refine q_get (v := .ref (b 0)) C inX10_ranked_X10 hK hP 0 rfl rfl 3 (by decide) rfl LX10_ranked_35 rfl dX10_ranked_19 ?_
      refine lv_iload_n hx hb dX10_ranked_22 rfl (lv_at hl 1 rfl) ?_
      obtain ⟨q_, s3, hc, hB⟩ := bindI_inv hB
      refine q_goi (wr := ((wG cZ cS a b b2 c0 rg sl s.g) ++ (wD cI b2 s.t))) (va_runVN (As := [.ref (b 0), .int x1]) (rest := []) C (ckX2_caseAtRank hc _) ⟨va_cnB 2 hts gX10_ranked_X2_caseAtRank_n224 rfl rfl rfl (hN _ nwM_X10_224 rfl) (hts _ LX10_ranked_I_X2) (by decide +kernel) ⟨Nat.le_of_ble_eq_true rfl, Nat.le_of_ble_eq_true rfl⟩, hts _ LX10_ranked_N_X2_caseAtRank, hts _ LX10_ranked_E_X2_caseAtRank⟩ (q_preV hK hP (ci := 2) (q0 := 53) rfl rfl rfl (q_pre hN hK hP hD [11, 12, 13, 14, 15, 16, 17, 18, 19, 20, 21, 22, 23, 24, 25, 26, 27, 28, 29, 30, 31, 32, 33, 34, 35, 36, 37, 38, 39, 40, 41, 42, 43, 44, 45, 46, 47, 48, 49, 50, 51, 52, 53, 54, 55, 56, 57, 58, 59, 60, 61, 62, 63] rfl (by decide))) rfl rfl hl.1 rfl (lv_room (Nat.le_of_ble_eq_true rfl)) dX10_ranked_23 ⟨Nat.le_of_ble_eq_true rfl, Nat.le_of_ble_eq_true rfl⟩) hP hD hS hA [11, 12, 13, 14, 15, 16, 17, 18, 19, 20, 21, 22, 23, 24, 25, 26, 27, 28, 29, 30, 31, 32, 33, 34, 35, 36, 37, 38, 39, 40, 41, 42, 43, 44, 45, 46, 47, 48, 49, 50, 51, 52, 53, 54, 55, 56, 57, 58, 59, 60, 61, 62, 63] [0, 1, 2, 3, 4, 5, 6, 7, 8, 9, 10] rfl rfl (by decide) (by decide) (fun r4 w1 H locs hw hP hD hS => ?_)
      obtain ⟨hq_, hw⟩ := hw; subst hw; subst hq_
      obtain ⟨s5, hs6, hB⟩ := letS_inv hB
      have hP : va_P (dC, dI) vwCl (wX cB cI cJ cZ cS a b b2 c0 rg sl s5) H := by subst hs6; exact hP
      have hD : va_D A (wX cB cI cJ cZ cS a b b2 c0 rg sl s5) := by subst hs6; exact hD
      exact q_iret C hr hlocks hK hP hD hS (Nat.le_of_ble_eq_true rfl) (Nat.le_of_ble_eq_true rfl) dX10_ranked_26 (by cases hB; exact ⟨rfl, rfl⟩)
    · have hB := if_n hB c2
      refine lv_iconst (v := (-1)) hx hb dX10_ranked_10 (by decide) ?_
      refine lv_goto (tgt := 26) hx hb dX10_ranked_11 (by decide) ?_
      exact q_iret C hr hlocks hK hP hD hS (Nat.le_of_ble_eq_true rfl) (Nat.le_of_ble_eq_true rfl) dX10_ranked_26 (by cases hB; exact ⟨rfl, rfl⟩)
theorem ckX10_ranked {l : Launch} {dC : Nat → ClassId} {dI : Nat → Nat → Nat} {cB cI cJ cZ cS : ClassId} {a b b2 c0 : Nat → Nat} {rg sl : Nat → Option Nat} {r : Int32} {s' : XS} {s : XS} {x1 : Int32} (hB : kX10_ranked s x1 = some (r, s')) : CI l yX10_ranked wsX10_ranked ({ frames := 5, cells := 0, slots := 0, locals := 123 }) (dC, dI) (tysA cB cI cJ cZ cS) (wX cB cI cJ cZ cS a b b2 c0 rg sl s) [.ref (c0 0), .int x1] (fun x u => x = r ∧ u = (wX cB cI cJ cZ cS a b b2 c0 rg sl s')) :=
  CI_of (cc := cX10_ranked) (maxL := 2) (ret := (some .int)) (by decide) rfl (Nat.le_of_ble_eq_true rfl) (bkX10_ranked _ _ hB)
theorem LX10_alike_19 : Cond.fieldLink RX10 19 "GuessFerry" "sound" "LGuessFerry$Sound;" ∈ wsX10_alike := by decide +kernel
theorem LX10_alike_E_X5_hasGuess : Cond.selects RX5 yX5_hasGuess yX5_hasGuess ∈ wsX10_alike := by decide +kernel
theorem LX10_alike_I_X5 : Cond.initialized RX5 ∈ wsX10_alike := by decide +kernel
theorem LX10_alike_N_X5_hasGuess : Cond.instanceMethod yX5_hasGuess ∈ wsX10_alike := by decide +kernel
theorem inX10_alike_X10 : ∀ w ∈ u_ws RX10 TX10 9, w ∈ wsX10_alike := by decide +kernel
theorem inX10_alike_X5 : ∀ w ∈ u_ws RX5 TX5 10, w ∈ wsX10_alike := by decide +kernel
set_option maxHeartbeats 4000000 in
set_option maxRecDepth 100000 in
theorem bkX10_alike_26 {l : Launch} {dC : Nat → ClassId} {dI : Nat → Nat → Nat} {cB cI cJ cZ cS : ClassId} {a b b2 c0 : Nat → Nat} {rg sl : Nat → Option Nat} {as : List Value} {r : Int32} {s' : XS} {k26 : XS → Int32 → Int32 → Int32 → Option (Int32 × XS)} (hk26 : ∀ (s : XS) (x1 : Int32) (x2 : Int32) (x3 : Int32), k26 s x1 x2 x3 = some (r, s') → BlkI l yX10_alike wsX10_alike ({ frames := 1, cells := 0, slots := 0, locals := 23 }) cX10_alike 4 (some .int) (dC, dI) (tysA cB cI cJ cZ cS) as 26 (wX cB cI cJ cZ cS a b b2 c0 rg sl s) [(0, .ref (c0 0)), (1, .int x1), (2, .int x2), (3, .int x3)] [] (fun x u => x = r ∧ u = (wX cB cI cJ cZ cS a b b2 c0 rg sl s'))) (s : XS) (x1 : Int32) (x2 : Int32) (x3 : Int32) (hB : kX10_alike_26 k26 s x1 x2 x3 = some (r, s')) : BlkI l yX10_alike wsX10_alike ({ frames := 1, cells := 0, slots := 0, locals := 23 }) cX10_alike 4 (some .int) (dC, dI) (tysA cB cI cJ cZ cS) as 26 (wX cB cI cJ cZ cS a b b2 c0 rg sl s) [(0, .ref (c0 0)), (1, .int x1), (2, .int x2), (3, .int x3)] [] (fun x u => x = r ∧ u = (wX cB cI cJ cZ cS a b b2 c0 rg sl s')) := by
  intro p e s0 m below meth c A E H locs ls hP hD hS hl
  obtain ⟨C, hr, hlocks, hA, hK, hN⟩ := id E
  obtain ⟨hx, hb, hml, hown, hts⟩ := id C
  unfold kX10_alike_26 at hB
  refine lv_iload_n hx hb dX10_alike_26 rfl (lv_at hl 3 rfl) ?_
  refine lv_aload_n hx hb dX10_alike_27 rfl (lv_at hl 0 rfl) ?_
  refine q_get (v := .ref (a 2)) C inX10_alike_X10 hK hP 0 rfl rfl 1 (by decide) rfl LX10_alike_19 rfl dX10_alike_28 ?_
  refine q_getN (v := .int (s.k.v 1)) C hN inX10_alike_X5 hK hP 19 rfl rfl 6 (by decide) rfl nwF_X10_167 rfl dX10_alike_31 ?_
  refine lv_icmp_ge (tgt := 56) hx hb dX10_alike_34 (by decide) (fun c1 => ?_) (fun c1 => ?_)
  · have hB := if_p hB c1
    refine lv_iload_n hx hb dX10_alike_56 rfl (lv_at hl 3 rfl) ?_
    exact q_iret C hr hlocks hK hP hD hS (Nat.le_of_ble_eq_true rfl) (Nat.le_of_ble_eq_true rfl) dX10_alike_57 (by cases hB; exact ⟨rfl, rfl⟩)
  · have hB := if_n hB c1
    refine lv_iload_n hx hb dX10_alike_37 rfl (lv_at hl 1 rfl) ?_
    refine lv_iload_n hx hb dX10_alike_38 rfl (lv_at hl 3 rfl) ?_
    obtain ⟨q_, hc, hB⟩ := bindP_inv hB
    refine q_goi0 (va_runS (As := [.int x1, .int x3]) (rest := []) C (ckX10_thingIn hc _) (va_cwS 2 hts gX10_alike_X10_thingIn rfl rfl rfl (by decide +kernel) ⟨Nat.le_of_ble_eq_true rfl, Nat.le_of_ble_eq_true rfl⟩) (q_pre0 hN hK) rfl rfl hl.1 rfl (lv_room (Nat.le_of_ble_eq_true rfl)) dX10_alike_39 ⟨Nat.le_of_ble_eq_true rfl, Nat.le_of_ble_eq_true rfl⟩) hP hD hS hA (fun r2 w1 H locs hw hP hS => ?_)
    subst hw
    refine lv_iload_n hx hb dX10_alike_42 rfl (lv_at hl 2 rfl) ?_
    refine lv_iload_n hx hb dX10_alike_43 rfl (lv_at hl 3 rfl) ?_
    obtain ⟨q_, hc, hB⟩ := bindP_inv hB
    refine q_goi0 (va_runS (As := [.int x2, .int x3]) (rest := [.int r2]) C (ckX10_thingIn hc _) (va_cwS 2 hts gX10_alike_X10_thingIn rfl rfl rfl (by decide +kernel) ⟨Nat.le_of_ble_eq_true rfl, Nat.le_of_ble_eq_true rfl⟩) (q_pre0 hN hK) rfl rfl hl.1 rfl (lv_room (Nat.le_of_ble_eq_true rfl)) dX10_alike_44 ⟨Nat.le_of_ble_eq_true rfl, Nat.le_of_ble_eq_true rfl⟩) hP hD hS hA (fun r3 w1 H locs hw hP hS => ?_)
    subst hw
    refine lv_icmp_ne (tgt := 56) hx hb dX10_alike_47 (by decide) (fun c4 => ?_) (fun c4 => ?_)
    · have hB := if_n hB c4
      refine lv_iload_n hx hb dX10_alike_56 rfl (lv_at hl 3 rfl) ?_
      exact q_iret C hr hlocks hK hP hD hS (Nat.le_of_ble_eq_true rfl) (Nat.le_of_ble_eq_true rfl) dX10_alike_57 (by cases hB; exact ⟨rfl, rfl⟩)
    · have hB := if_p hB c4
      refine lv_iinc (v := (x3 + 1)) (lv' := [(3, .int (x3 + 1)), (0, .ref (c0 0)), (1, .int x1), (2, .int x2)]) hx hb dX10_alike_50 hl (k := 3) rfl (rfl) (by decide) rfl (fun ls hl => ?_)
      refine lv_goto (tgt := 26) hx hb dX10_alike_53 (by decide) ?_
      exact hk26 _ _ _ _ hB p e s0 m below meth c A E H locs ls hP hD hS (lv_sub hl [1, 2, 3, 0] rfl)
theorem bkX10_alike_26L {l : Launch} {dC : Nat → ClassId} {dI : Nat → Nat → Nat} {cB cI cJ cZ cS : ClassId} {a b b2 c0 : Nat → Nat} {rg sl : Nat → Option Nat} {as : List Value} {r : Int32} {s' : XS} : ∀ (n : Nat) (s : XS) (x1 : Int32) (x2 : Int32) (x3 : Int32), kX10_alike_26L n s x1 x2 x3 = some (r, s') → BlkI l yX10_alike wsX10_alike ({ frames := 1, cells := 0, slots := 0, locals := 23 }) cX10_alike 4 (some .int) (dC, dI) (tysA cB cI cJ cZ cS) as 26 (wX cB cI cJ cZ cS a b b2 c0 rg sl s) [(0, .ref (c0 0)), (1, .int x1), (2, .int x2), (3, .int x3)] [] (fun x u => x = r ∧ u = (wX cB cI cJ cZ cS a b b2 c0 rg sl s')) := by
  intro n
  induction n with
  | zero => intro s x1 x2 x3 hB; exact none_ne hB
  | succ n ih => intro s x1 x2 x3 hB; exact bkX10_alike_26 ih _ _ _ _ hB
set_option maxHeartbeats 4000000 in
set_option maxRecDepth 100000 in
theorem bkX10_alike {l : Launch} {dC : Nat → ClassId} {dI : Nat → Nat → Nat} {cB cI cJ cZ cS : ClassId} {a b b2 c0 : Nat → Nat} {rg sl : Nat → Option Nat} {as : List Value} {r : Int32} {s' : XS} (s : XS) (x1 : Int32) (x2 : Int32) (hB : kX10_alike s x1 x2 = some (r, s')) : BlkI l yX10_alike wsX10_alike ({ frames := 1, cells := 0, slots := 0, locals := 23 }) cX10_alike 4 (some .int) (dC, dI) (tysA cB cI cJ cZ cS) as 0 (wX cB cI cJ cZ cS a b b2 c0 rg sl s) [(0, .ref (c0 0)), (1, .int x1), (2, .int x2)] [] (fun x u => x = r ∧ u = (wX cB cI cJ cZ cS a b b2 c0 rg sl s')) := by
  intro p e s0 m below meth c A E H locs ls hP hD hS hl
  obtain ⟨C, hr, hlocks, hA, hK, hN⟩ := id E
  obtain ⟨hx, hb, hml, hown, hts⟩ := id C
  unfold kX10_alike at hB
  refine lv_aload_n hx hb dX10_alike_0 rfl (lv_at hl 0 rfl) ?_
  refine q_get (v := .ref (a 2)) C inX10_alike_X10 hK hP 0 rfl rfl 1 (by decide) rfl LX10_alike_19 rfl dX10_alike_1 ?_
  refine lv_iload_n hx hb dX10_alike_4 rfl (lv_at hl 1 rfl) ?_
  obtain ⟨q_, s1, hc, hB⟩ := bindI_inv hB
  refine q_goi (wr := ((wG cZ cS a b b2 c0 rg sl s.g) ++ (wD cI b2 s.t) ++ (wD cI b s.n))) (va_runVN (As := [.int x1]) (rest := []) C (ckX5_hasGuess hc _) ⟨va_cnB 1 hts gX10_alike_X5_hasGuess_n170 rfl rfl rfl (hN _ nwM_X10_170 rfl) (hts _ LX10_alike_I_X5) (by decide +kernel) ⟨Nat.le_of_ble_eq_true rfl, Nat.le_of_ble_eq_true rfl⟩, hts _ LX10_alike_N_X5_hasGuess, hts _ LX10_alike_E_X5_hasGuess⟩ (q_preV hK hP (ci := 5) (q0 := 19) rfl rfl rfl (q_pre hN hK hP hD [17, 18, 19, 20, 21, 22, 23, 24, 25, 26, 27, 28, 29, 30, 31, 32, 33, 34, 35, 36, 37, 38, 39, 40, 41, 42, 43, 44, 45, 46, 47, 48, 49, 50, 51, 52, 53, 54, 55, 56, 57, 58, 59, 60, 61, 62, 63] rfl (by decide))) rfl rfl hl.1 rfl (lv_room (Nat.le_of_ble_eq_true rfl)) dX10_alike_5 ⟨Nat.le_of_ble_eq_true rfl, Nat.le_of_ble_eq_true rfl⟩) hP hD hS hA [17, 18, 19, 20, 21, 22, 23, 24, 25, 26, 27, 28, 29, 30, 31, 32, 33, 34, 35, 36, 37, 38, 39, 40, 41, 42, 43, 44, 45, 46, 47, 48, 49, 50, 51, 52, 53, 54, 55, 56, 57, 58, 59, 60, 61, 62, 63] [0, 1, 2, 3, 4, 5, 6, 7, 8, 9, 10, 11, 12, 13, 14, 15, 16] rfl rfl (by decide) (by decide) (fun r2 w1 H locs hw hP hD hS => ?_)
  obtain ⟨hq_, hw⟩ := hw; subst hw; subst hq_
  obtain ⟨s3, hs4, hB⟩ := letS_inv hB
  have hP : va_P (dC, dI) vwCl (wX cB cI cJ cZ cS a b b2 c0 rg sl s3) H := by subst hs4; exact hP
  have hD : va_D A (wX cB cI cJ cZ cS a b b2 c0 rg sl s3) := by subst hs4; exact hD
  refine lv_if_eq (tgt := 22) hx hb dX10_alike_8 (by decide) (fun c5 => ?_) (fun c5 => ?_)
  · have hB := if_p hB c5
    refine lv_iconst (v := (-1)) hx hb dX10_alike_22 (by decide) ?_
    exact q_iret C hr hlocks hK hP hD hS (Nat.le_of_ble_eq_true rfl) (Nat.le_of_ble_eq_true rfl) dX10_alike_23 (by cases hB; exact ⟨rfl, rfl⟩)
  · have hB := if_n hB c5
    refine lv_aload_n hx hb dX10_alike_11 rfl (lv_at hl 0 rfl) ?_
    refine q_get (v := .ref (a 2)) C inX10_alike_X10 hK hP 0 rfl rfl 1 (by decide) rfl LX10_alike_19 rfl dX10_alike_12 ?_
    refine lv_iload_n hx hb dX10_alike_15 rfl (lv_at hl 2 rfl) ?_
    obtain ⟨q_, s6, hc, hB⟩ := bindI_inv hB
    refine q_goi (wr := ((wG cZ cS a b b2 c0 rg sl s3.g) ++ (wD cI b2 s3.t) ++ (wD cI b s3.n))) (va_runVN (As := [.int x2]) (rest := []) C (ckX5_hasGuess hc _) ⟨va_cnB 1 hts gX10_alike_X5_hasGuess_n170 rfl rfl rfl (hN _ nwM_X10_170 rfl) (hts _ LX10_alike_I_X5) (by decide +kernel) ⟨Nat.le_of_ble_eq_true rfl, Nat.le_of_ble_eq_true rfl⟩, hts _ LX10_alike_N_X5_hasGuess, hts _ LX10_alike_E_X5_hasGuess⟩ (q_preV hK hP (ci := 5) (q0 := 19) rfl rfl rfl (q_pre hN hK hP hD [17, 18, 19, 20, 21, 22, 23, 24, 25, 26, 27, 28, 29, 30, 31, 32, 33, 34, 35, 36, 37, 38, 39, 40, 41, 42, 43, 44, 45, 46, 47, 48, 49, 50, 51, 52, 53, 54, 55, 56, 57, 58, 59, 60, 61, 62, 63] rfl (by decide))) rfl rfl hl.1 rfl (lv_room (Nat.le_of_ble_eq_true rfl)) dX10_alike_16 ⟨Nat.le_of_ble_eq_true rfl, Nat.le_of_ble_eq_true rfl⟩) hP hD hS hA [17, 18, 19, 20, 21, 22, 23, 24, 25, 26, 27, 28, 29, 30, 31, 32, 33, 34, 35, 36, 37, 38, 39, 40, 41, 42, 43, 44, 45, 46, 47, 48, 49, 50, 51, 52, 53, 54, 55, 56, 57, 58, 59, 60, 61, 62, 63] [0, 1, 2, 3, 4, 5, 6, 7, 8, 9, 10, 11, 12, 13, 14, 15, 16] rfl rfl (by decide) (by decide) (fun r7 w1 H locs hw hP hD hS => ?_)
    obtain ⟨hq_, hw⟩ := hw; subst hw; subst hq_
    obtain ⟨s8, hs9, hB⟩ := letS_inv hB
    have hP : va_P (dC, dI) vwCl (wX cB cI cJ cZ cS a b b2 c0 rg sl s8) H := by subst hs9; exact hP
    have hD : va_D A (wX cB cI cJ cZ cS a b b2 c0 rg sl s8) := by subst hs9; exact hD
    refine lv_if_ne (tgt := 24) hx hb dX10_alike_19 (by decide) (fun c10 => ?_) (fun c10 => ?_)
    · have hB := if_n hB c10
      refine lv_iconst (v := 0) hx hb dX10_alike_24 (by decide) ?_
      refine lv_istore_n (lv' := [(3, .int 0), (0, .ref (c0 0)), (1, .int x1), (2, .int x2)]) hx hb dX10_alike_25 rfl hl (by decide) rfl (fun ls hl => ?_)
      exact bkX10_alike_26L fu _ _ _ _ hB p e s0 m below meth c A E H locs ls hP hD hS (lv_sub hl [1, 2, 3, 0] rfl)
    · have hB := if_p hB c10
      refine lv_iconst (v := (-1)) hx hb dX10_alike_22 (by decide) ?_
      exact q_iret C hr hlocks hK hP hD hS (Nat.le_of_ble_eq_true rfl) (Nat.le_of_ble_eq_true rfl) dX10_alike_23 (by cases hB; exact ⟨rfl, rfl⟩)
theorem ckX10_alike {l : Launch} {dC : Nat → ClassId} {dI : Nat → Nat → Nat} {cB cI cJ cZ cS : ClassId} {a b b2 c0 : Nat → Nat} {rg sl : Nat → Option Nat} {r : Int32} {s' : XS} {s : XS} {x1 : Int32} {x2 : Int32} (hB : kX10_alike s x1 x2 = some (r, s')) : CI l yX10_alike wsX10_alike ({ frames := 1, cells := 0, slots := 0, locals := 23 }) (dC, dI) (tysA cB cI cJ cZ cS) (wX cB cI cJ cZ cS a b b2 c0 rg sl s) [.ref (c0 0), .int x1, .int x2] (fun x u => x = r ∧ u = (wX cB cI cJ cZ cS a b b2 c0 rg sl s')) :=
  CI_of (cc := cX10_alike) (maxL := 4) (ret := (some .int)) (by decide) rfl (Nat.le_of_ble_eq_true rfl) (bkX10_alike _ _ _ hB)
theorem LX10_spread_19 : Cond.fieldLink RX10 19 "GuessFerry" "sound" "LGuessFerry$Sound;" ∈ wsX10_spread := by decide +kernel
theorem LX10_spread_35 : Cond.fieldLink RX10 35 "GuessFerry" "now" "LGuessFerry$Standing;" ∈ wsX10_spread := by decide +kernel
theorem LX10_spread_63 : Cond.fieldLink RX10 63 "GuessFerry" "outlook" "LGuessFerry$Outlook;" ∈ wsX10_spread := by decide +kernel
theorem LX10_spread_E_X2_oddsApart : Cond.selects RX2 yX2_oddsApart yX2_oddsApart ∈ wsX10_spread := by decide +kernel
theorem LX10_spread_E_X5_hasWave : Cond.selects RX5 yX5_hasWave yX5_hasWave ∈ wsX10_spread := by decide +kernel
theorem LX10_spread_I_X2 : Cond.initialized RX2 ∈ wsX10_spread := by decide +kernel
theorem LX10_spread_I_X5 : Cond.initialized RX5 ∈ wsX10_spread := by decide +kernel
theorem LX10_spread_N_X2_oddsApart : Cond.instanceMethod yX2_oddsApart ∈ wsX10_spread := by decide +kernel
theorem LX10_spread_N_X5_hasWave : Cond.instanceMethod yX5_hasWave ∈ wsX10_spread := by decide +kernel
theorem inX10_spread_X10 : ∀ w ∈ u_ws RX10 TX10 9, w ∈ wsX10_spread := by decide +kernel
set_option maxHeartbeats 4000000 in
set_option maxRecDepth 100000 in
theorem bkX10_spread {l : Launch} {dC : Nat → ClassId} {dI : Nat → Nat → Nat} {cB cI cJ cZ cS : ClassId} {a b b2 c0 : Nat → Nat} {rg sl : Nat → Option Nat} {as : List Value} {r : Int32} {s' : XS} (s : XS) (x1 : Int32) (hB : kX10_spread s x1 = some (r, s')) : BlkI l yX10_spread wsX10_spread ({ frames := 3, cells := 0, slots := 0, locals := 71 }) cX10_spread 2 (some .int) (dC, dI) (tysA cB cI cJ cZ cS) as 0 (wX cB cI cJ cZ cS a b b2 c0 rg sl s) [(0, .ref (c0 0)), (1, .int x1)] [] (fun x u => x = r ∧ u = (wX cB cI cJ cZ cS a b b2 c0 rg sl s')) := by
  intro p e s0 m below meth c A E H locs ls hP hD hS hl
  obtain ⟨C, hr, hlocks, hA, hK, hN⟩ := id E
  obtain ⟨hx, hb, hml, hown, hts⟩ := id C
  unfold kX10_spread at hB
  refine lv_aload_n hx hb dX10_spread_0 rfl (lv_at hl 0 rfl) ?_
  refine q_get (v := .ref (a 2)) C inX10_spread_X10 hK hP 0 rfl rfl 1 (by decide) rfl LX10_spread_19 rfl dX10_spread_1 ?_
  refine lv_iload_n hx hb dX10_spread_4 rfl (lv_at hl 1 rfl) ?_
  obtain ⟨q_, s1, hc, hB⟩ := bindI_inv hB
  refine q_goi (wr := ((wG cZ cS a b b2 c0 rg sl s.g) ++ (wD cI b2 s.t) ++ (wD cI b s.n))) (va_runVN (As := [.int x1]) (rest := []) C (ckX5_hasWave hc _) ⟨va_cnB 1 hts gX10_spread_X5_hasWave_n108 rfl rfl rfl (hN _ nwM_X10_108 rfl) (hts _ LX10_spread_I_X5) (by decide +kernel) ⟨Nat.le_of_ble_eq_true rfl, Nat.le_of_ble_eq_true rfl⟩, hts _ LX10_spread_N_X5_hasWave, hts _ LX10_spread_E_X5_hasWave⟩ (q_preV hK hP (ci := 5) (q0 := 19) rfl rfl rfl (q_pre hN hK hP hD [17, 18, 19, 20, 21, 22, 23, 24, 25, 26, 27, 28, 29, 30, 31, 32, 33, 34, 35, 36, 37, 38, 39, 40, 41, 42, 43, 44, 45, 46, 47, 48, 49, 50, 51, 52, 53, 54, 55, 56, 57, 58, 59, 60, 61, 62, 63] rfl (by decide))) rfl rfl hl.1 rfl (lv_room (Nat.le_of_ble_eq_true rfl)) dX10_spread_5 ⟨Nat.le_of_ble_eq_true rfl, Nat.le_of_ble_eq_true rfl⟩) hP hD hS hA [17, 18, 19, 20, 21, 22, 23, 24, 25, 26, 27, 28, 29, 30, 31, 32, 33, 34, 35, 36, 37, 38, 39, 40, 41, 42, 43, 44, 45, 46, 47, 48, 49, 50, 51, 52, 53, 54, 55, 56, 57, 58, 59, 60, 61, 62, 63] [0, 1, 2, 3, 4, 5, 6, 7, 8, 9, 10, 11, 12, 13, 14, 15, 16] rfl rfl (by decide) (by decide) (fun r2 w1 H locs hw hP hD hS => ?_)
  obtain ⟨hq_, hw⟩ := hw; subst hw; subst hq_
  obtain ⟨s3, hs4, hB⟩ := letS_inv hB
  have hP : va_P (dC, dI) vwCl (wX cB cI cJ cZ cS a b b2 c0 rg sl s3) H := by subst hs4; exact hP
  have hD : va_D A (wX cB cI cJ cZ cS a b b2 c0 rg sl s3) := by subst hs4; exact hD
  refine lv_if_eq (tgt := 26) hx hb dX10_spread_8 (by decide) (fun c5 => ?_) (fun c5 => ?_)
  · have hB := if_p hB c5
    refine lv_iconst (v := (-1)) hx hb dX10_spread_26 (by decide) ?_
    exact q_iret C hr hlocks hK hP hD hS (Nat.le_of_ble_eq_true rfl) (Nat.le_of_ble_eq_true rfl) dX10_spread_27 (by cases hB; exact ⟨rfl, rfl⟩)
  · have hB := if_n hB c5
    refine lv_aload_n hx hb dX10_spread_11 rfl (lv_at hl 0 rfl) ?_
    refine q_get (v := .ref (a 36)) C inX10_spread_X10 hK hP 0 rfl rfl 7 (by decide) rfl LX10_spread_63 rfl dX10_spread_12 ?_
    refine lv_aload_n hx hb dX10_spread_15 rfl (lv_at hl 0 rfl) ?_
    refine q_get (v := .ref (b 0)) C inX10_spread_X10 hK hP 0 rfl rfl 3 (by decide) rfl LX10_spread_35 rfl dX10_spread_16 ?_
    refine lv_iload_n hx hb dX10_spread_19 rfl (lv_at hl 1 rfl) ?_
    obtain ⟨q_, s6, hc, hB⟩ := bindI_inv hB
    refine q_goi (wr := ((wG cZ cS a b b2 c0 rg sl s3.g) ++ (wD cI b2 s3.t))) (va_runVN (As := [.ref (b 0), .int x1]) (rest := []) C (ckX2_oddsApart hc _) ⟨va_cnB 2 hts gX10_spread_X2_oddsApart_n238 rfl rfl rfl (hN _ nwM_X10_238 rfl) (hts _ LX10_spread_I_X2) (by decide +kernel) ⟨Nat.le_of_ble_eq_true rfl, Nat.le_of_ble_eq_true rfl⟩, hts _ LX10_spread_N_X2_oddsApart, hts _ LX10_spread_E_X2_oddsApart⟩ (q_preV hK hP (ci := 2) (q0 := 53) rfl rfl rfl (q_pre hN hK hP hD [11, 12, 13, 14, 15, 16, 17, 18, 19, 20, 21, 22, 23, 24, 25, 26, 27, 28, 29, 30, 31, 32, 33, 34, 35, 36, 37, 38, 39, 40, 41, 42, 43, 44, 45, 46, 47, 48, 49, 50, 51, 52, 53, 54, 55, 56, 57, 58, 59, 60, 61, 62, 63] rfl (by decide))) rfl rfl hl.1 rfl (lv_room (Nat.le_of_ble_eq_true rfl)) dX10_spread_20 ⟨Nat.le_of_ble_eq_true rfl, Nat.le_of_ble_eq_true rfl⟩) hP hD hS hA [11, 12, 13, 14, 15, 16, 17, 18, 19, 20, 21, 22, 23, 24, 25, 26, 27, 28, 29, 30, 31, 32, 33, 34, 35, 36, 37, 38, 39, 40, 41, 42, 43, 44, 45, 46, 47, 48, 49, 50, 51, 52, 53, 54, 55, 56, 57, 58, 59, 60, 61, 62, 63] [0, 1, 2, 3, 4, 5, 6, 7, 8, 9, 10] rfl rfl (by decide) (by decide) (fun r7 w1 H locs hw hP hD hS => ?_)
    obtain ⟨hq_, hw⟩ := hw; subst hw; subst hq_
    obtain ⟨s8, hs9, hB⟩ := letS_inv hB
    have hP : va_P (dC, dI) vwCl (wX cB cI cJ cZ cS a b b2 c0 rg sl s8) H := by subst hs9; exact hP
    have hD : va_D A (wX cB cI cJ cZ cS a b b2 c0 rg sl s8) := by subst hs9; exact hD
    refine lv_goto (tgt := 27) hx hb dX10_spread_23 (by decide) ?_
    exact q_iret C hr hlocks hK hP hD hS (Nat.le_of_ble_eq_true rfl) (Nat.le_of_ble_eq_true rfl) dX10_spread_27 (by cases hB; exact ⟨rfl, rfl⟩)
theorem ckX10_spread {l : Launch} {dC : Nat → ClassId} {dI : Nat → Nat → Nat} {cB cI cJ cZ cS : ClassId} {a b b2 c0 : Nat → Nat} {rg sl : Nat → Option Nat} {r : Int32} {s' : XS} {s : XS} {x1 : Int32} (hB : kX10_spread s x1 = some (r, s')) : CI l yX10_spread wsX10_spread ({ frames := 3, cells := 0, slots := 0, locals := 71 }) (dC, dI) (tysA cB cI cJ cZ cS) (wX cB cI cJ cZ cS a b b2 c0 rg sl s) [.ref (c0 0), .int x1] (fun x u => x = r ∧ u = (wX cB cI cJ cZ cS a b b2 c0 rg sl s')) :=
  CI_of (cc := cX10_spread) (maxL := 2) (ret := (some .int)) (by decide) rfl (Nat.le_of_ble_eq_true rfl) (bkX10_spread _ _ hB)
theorem LX10_open_19 : Cond.fieldLink RX10 19 "GuessFerry" "sound" "LGuessFerry$Sound;" ∈ wsX10_open := by decide +kernel
theorem LX10_open_35 : Cond.fieldLink RX10 35 "GuessFerry" "now" "LGuessFerry$Standing;" ∈ wsX10_open := by decide +kernel
theorem LX10_open_54 : Cond.fieldLink RX10 54 "GuessFerry" "crossing" "LGuessFerry$Crossing;" ∈ wsX10_open := by decide +kernel
theorem LX10_open_E_X0_mayBe : Cond.selects RX0 yX0_mayBe yX0_mayBe ∈ wsX10_open := by decide +kernel
theorem LX10_open_I_X0 : Cond.initialized RX0 ∈ wsX10_open := by decide +kernel
theorem LX10_open_N_X0_mayBe : Cond.instanceMethod yX0_mayBe ∈ wsX10_open := by decide +kernel
theorem inX10_open_X10 : ∀ w ∈ u_ws RX10 TX10 9, w ∈ wsX10_open := by decide +kernel
theorem inX10_open_X5 : ∀ w ∈ u_ws RX5 TX5 10, w ∈ wsX10_open := by decide +kernel
set_option maxHeartbeats 4000000 in
set_option maxRecDepth 100000 in
theorem bkX10_open_40 {l : Launch} {dC : Nat → ClassId} {dI : Nat → Nat → Nat} {cB cI cJ cZ cS : ClassId} {a b b2 c0 : Nat → Nat} {rg sl : Nat → Option Nat} {as : List Value} {r : Int32} {s' : XS} {k4 : XS → Int32 → Int32 → Option (Int32 × XS)} (hk4 : ∀ (s : XS) (x1 : Int32) (x2 : Int32), k4 s x1 x2 = some (r, s') → BlkI l yX10_open wsX10_open ({ frames := 1, cells := 0, slots := 0, locals := 22 }) cX10_open 3 (some .int) (dC, dI) (tysA cB cI cJ cZ cS) as 4 (wX cB cI cJ cZ cS a b b2 c0 rg sl s) [(0, .ref (c0 0)), (1, .int x1), (2, .int x2)] [] (fun x u => x = r ∧ u = (wX cB cI cJ cZ cS a b b2 c0 rg sl s'))) (s : XS) (x1 : Int32) (x2 : Int32) (hB : kX10_open_40 k4 s x1 x2 = some (r, s')) : BlkI l yX10_open wsX10_open ({ frames := 1, cells := 0, slots := 0, locals := 22 }) cX10_open 3 (some .int) (dC, dI) (tysA cB cI cJ cZ cS) as 40 (wX cB cI cJ cZ cS a b b2 c0 rg sl s) [(0, .ref (c0 0)), (1, .int x1), (2, .int x2)] [] (fun x u => x = r ∧ u = (wX cB cI cJ cZ cS a b b2 c0 rg sl s')) := by
  intro p e s0 m below meth c A E H locs ls hP hD hS hl
  obtain ⟨C, hr, hlocks, hA, hK, hN⟩ := id E
  obtain ⟨hx, hb, hml, hown, hts⟩ := id C
  unfold kX10_open_40 at hB
  refine lv_iinc (v := (x2 + 1)) (lv' := [(2, .int (x2 + 1)), (0, .ref (c0 0)), (1, .int x1)]) hx hb dX10_open_40 hl (k := 2) rfl (rfl) (by decide) rfl (fun ls hl => ?_)
  refine lv_goto (tgt := 4) hx hb dX10_open_43 (by decide) ?_
  exact hk4 _ _ _ hB p e s0 m below meth c A E H locs ls hP hD hS (lv_sub hl [1, 2, 0] rfl)
set_option maxHeartbeats 4000000 in
set_option maxRecDepth 100000 in
theorem bkX10_open_4 {l : Launch} {dC : Nat → ClassId} {dI : Nat → Nat → Nat} {cB cI cJ cZ cS : ClassId} {a b b2 c0 : Nat → Nat} {rg sl : Nat → Option Nat} {as : List Value} {r : Int32} {s' : XS} {k4 : XS → Int32 → Int32 → Option (Int32 × XS)} (hk4 : ∀ (s : XS) (x1 : Int32) (x2 : Int32), k4 s x1 x2 = some (r, s') → BlkI l yX10_open wsX10_open ({ frames := 1, cells := 0, slots := 0, locals := 22 }) cX10_open 3 (some .int) (dC, dI) (tysA cB cI cJ cZ cS) as 4 (wX cB cI cJ cZ cS a b b2 c0 rg sl s) [(0, .ref (c0 0)), (1, .int x1), (2, .int x2)] [] (fun x u => x = r ∧ u = (wX cB cI cJ cZ cS a b b2 c0 rg sl s'))) (s : XS) (x1 : Int32) (x2 : Int32) (hB : kX10_open_4 k4 s x1 x2 = some (r, s')) : BlkI l yX10_open wsX10_open ({ frames := 1, cells := 0, slots := 0, locals := 22 }) cX10_open 3 (some .int) (dC, dI) (tysA cB cI cJ cZ cS) as 4 (wX cB cI cJ cZ cS a b b2 c0 rg sl s) [(0, .ref (c0 0)), (1, .int x1), (2, .int x2)] [] (fun x u => x = r ∧ u = (wX cB cI cJ cZ cS a b b2 c0 rg sl s')) := by
  intro p e s0 m below meth c A E H locs ls hP hD hS hl
  obtain ⟨C, hr, hlocks, hA, hK, hN⟩ := id E
  obtain ⟨hx, hb, hml, hown, hts⟩ := id C
  unfold kX10_open_4 at hB
  refine lv_iload_n hx hb dX10_open_4 rfl (lv_at hl 2 rfl) ?_
  refine lv_aload_n hx hb dX10_open_5 rfl (lv_at hl 0 rfl) ?_
  refine q_get (v := .ref (a 2)) C inX10_open_X10 hK hP 0 rfl rfl 1 (by decide) rfl LX10_open_19 rfl dX10_open_6 ?_
  refine q_getN (v := .int (s.k.v 1)) C hN inX10_open_X5 hK hP 19 rfl rfl 6 (by decide) rfl nwF_X10_167 rfl dX10_open_9 ?_
  refine lv_icmp_ge (tgt := 46) hx hb dX10_open_12 (by decide) (fun c1 => ?_) (fun c1 => ?_)
  · have hB := if_p hB c1
    refine lv_iload_n hx hb dX10_open_46 rfl (lv_at hl 1 rfl) ?_
    exact q_iret C hr hlocks hK hP hD hS (Nat.le_of_ble_eq_true rfl) (Nat.le_of_ble_eq_true rfl) dX10_open_47 (by cases hB; exact ⟨rfl, rfl⟩)
  · have hB := if_n hB c1
    refine lv_aload_n hx hb dX10_open_15 rfl (lv_at hl 0 rfl) ?_
    refine q_get (v := .ref (a 35)) C inX10_open_X10 hK hP 0 rfl rfl 6 (by decide) rfl LX10_open_54 rfl dX10_open_16 ?_
    refine lv_aload_n hx hb dX10_open_19 rfl (lv_at hl 0 rfl) ?_
    refine q_get (v := .ref (b 0)) C inX10_open_X10 hK hP 0 rfl rfl 3 (by decide) rfl LX10_open_35 rfl dX10_open_20 ?_
    refine lv_iload_n hx hb dX10_open_23 rfl (lv_at hl 2 rfl) ?_
    obtain ⟨q_, s2, hc, hB⟩ := bindI_inv hB
    refine q_goi (wr := ((wG cZ cS a b b2 c0 rg sl s.g) ++ (wD cI b2 s.t))) (va_runVN (As := [.ref (b 0), .int x2]) (rest := []) C (ckX0_mayBe hc _) ⟨va_cnB 2 hts gX10_open_X0_mayBe_n111 rfl rfl rfl (hN _ nwM_X10_111 rfl) (hts _ LX10_open_I_X0) (by decide +kernel) ⟨Nat.le_of_ble_eq_true rfl, Nat.le_of_ble_eq_true rfl⟩, hts _ LX10_open_N_X0_mayBe, hts _ LX10_open_E_X0_mayBe⟩ (q_preV hK hP (ci := 0) (q0 := 52) rfl rfl rfl (q_pre hN hK hP hD [11, 12, 13, 14, 15, 16, 17, 18, 19, 20, 21, 22, 23, 24, 25, 26, 27, 28, 29, 30, 31, 32, 33, 34, 35, 36, 37, 38, 39, 40, 41, 42, 43, 44, 45, 46, 47, 48, 49, 50, 51, 52, 53, 54, 55, 56, 57, 58, 59, 60, 61, 62, 63] rfl (by decide))) rfl rfl hl.1 rfl (lv_room (Nat.le_of_ble_eq_true rfl)) dX10_open_24 ⟨Nat.le_of_ble_eq_true rfl, Nat.le_of_ble_eq_true rfl⟩) hP hD hS hA [11, 12, 13, 14, 15, 16, 17, 18, 19, 20, 21, 22, 23, 24, 25, 26, 27, 28, 29, 30, 31, 32, 33, 34, 35, 36, 37, 38, 39, 40, 41, 42, 43, 44, 45, 46, 47, 48, 49, 50, 51, 52, 53, 54, 55, 56, 57, 58, 59, 60, 61, 62, 63] [0, 1, 2, 3, 4, 5, 6, 7, 8, 9, 10] rfl rfl (by decide) (by decide) (fun r3 w1 H locs hw hP hD hS => ?_)
    obtain ⟨hq_, hw⟩ := hw; subst hw; subst hq_
    obtain ⟨s4, hs5, hB⟩ := letS_inv hB
    have hP : va_P (dC, dI) vwCl (wX cB cI cJ cZ cS a b b2 c0 rg sl s4) H := by subst hs5; exact hP
    have hD : va_D A (wX cB cI cJ cZ cS a b b2 c0 rg sl s4) := by subst hs5; exact hD
    obtain ⟨q_, hc, hB⟩ := bindP_inv hB
    refine q_goi0 (va_runS (As := [.int r3]) (rest := []) C (ckJ6_bitCount_0f7a4 hc _) (va_cwS 1 hts gX10_open_J6_bitCount_0f7a4 rfl rfl rfl (by decide +kernel) ⟨Nat.le_of_ble_eq_true rfl, Nat.le_of_ble_eq_true rfl⟩) (q_pre0 hN hK) rfl rfl hl.1 rfl (lv_room (Nat.le_of_ble_eq_true rfl)) dX10_open_27 ⟨Nat.le_of_ble_eq_true rfl, Nat.le_of_ble_eq_true rfl⟩) hP hD hS hA (fun r6 w1 H locs hw hP hS => ?_)
    subst hw
    refine lv_iconst (v := 1) hx hb dX10_open_30 (by decide) ?_
    refine lv_icmp_le (tgt := 40) hx hb dX10_open_31 (by decide) (fun c7 => ?_) (fun c7 => ?_)
    · have hB := if_p hB c7
      exact bkX10_open_40 (hk4) _ _ _ hB p e s0 m below meth c A E H locs ls hP hD hS (lv_sub hl [0, 1, 2] rfl)
    · have hB := if_n hB c7
      refine lv_iload_n hx hb dX10_open_34 rfl (lv_at hl 1 rfl) ?_
      refine lv_iconst (v := 1) hx hb dX10_open_35 (by decide) ?_
      refine lv_iload_n hx hb dX10_open_36 rfl (lv_at hl 2 rfl) ?_
      refine lv_ishl hx hb dX10_open_37 ?_
      refine lv_ior hx hb dX10_open_38 ?_
      refine lv_istore_n (lv' := [(1, .int (x1 ||| (1 <<< (x2 &&& 31)))), (0, .ref (c0 0)), (2, .int x2)]) hx hb dX10_open_39 rfl hl (by decide) rfl (fun ls hl => ?_)
      exact bkX10_open_40 (hk4) _ _ _ hB p e s0 m below meth c A E H locs ls hP hD hS (lv_sub hl [1, 0, 2] rfl)
theorem bkX10_open_4L {l : Launch} {dC : Nat → ClassId} {dI : Nat → Nat → Nat} {cB cI cJ cZ cS : ClassId} {a b b2 c0 : Nat → Nat} {rg sl : Nat → Option Nat} {as : List Value} {r : Int32} {s' : XS} : ∀ (n : Nat) (s : XS) (x1 : Int32) (x2 : Int32), kX10_open_4L n s x1 x2 = some (r, s') → BlkI l yX10_open wsX10_open ({ frames := 1, cells := 0, slots := 0, locals := 22 }) cX10_open 3 (some .int) (dC, dI) (tysA cB cI cJ cZ cS) as 4 (wX cB cI cJ cZ cS a b b2 c0 rg sl s) [(0, .ref (c0 0)), (1, .int x1), (2, .int x2)] [] (fun x u => x = r ∧ u = (wX cB cI cJ cZ cS a b b2 c0 rg sl s')) := by
  intro n
  induction n with
  | zero => intro s x1 x2 hB; exact none_ne hB
  | succ n ih => intro s x1 x2 hB; exact bkX10_open_4 ih _ _ _ hB
set_option maxHeartbeats 4000000 in
set_option maxRecDepth 100000 in
theorem bkX10_open {l : Launch} {dC : Nat → ClassId} {dI : Nat → Nat → Nat} {cB cI cJ cZ cS : ClassId} {a b b2 c0 : Nat → Nat} {rg sl : Nat → Option Nat} {as : List Value} {r : Int32} {s' : XS} (s : XS) (hB : kX10_open s = some (r, s')) : BlkI l yX10_open wsX10_open ({ frames := 1, cells := 0, slots := 0, locals := 22 }) cX10_open 3 (some .int) (dC, dI) (tysA cB cI cJ cZ cS) as 0 (wX cB cI cJ cZ cS a b b2 c0 rg sl s) [(0, .ref (c0 0))] [] (fun x u => x = r ∧ u = (wX cB cI cJ cZ cS a b b2 c0 rg sl s')) := by
  intro p e s0 m below meth c A E H locs ls hP hD hS hl
  obtain ⟨C, hr, hlocks, hA, hK, hN⟩ := id E
  obtain ⟨hx, hb, hml, hown, hts⟩ := id C
  unfold kX10_open at hB
  refine lv_iconst (v := 0) hx hb dX10_open_0 (by decide) ?_
  refine lv_istore_n (lv' := [(1, .int 0), (0, .ref (c0 0))]) hx hb dX10_open_1 rfl hl (by decide) rfl (fun ls hl => ?_)
  refine lv_iconst (v := 0) hx hb dX10_open_2 (by decide) ?_
  refine lv_istore_n (lv' := [(2, .int 0), (1, .int 0), (0, .ref (c0 0))]) hx hb dX10_open_3 rfl hl (by decide) rfl (fun ls hl => ?_)
  exact bkX10_open_4L fu _ _ _ hB p e s0 m below meth c A E H locs ls hP hD hS (lv_sub hl [2, 1, 0] rfl)
theorem ckX10_open {l : Launch} {dC : Nat → ClassId} {dI : Nat → Nat → Nat} {cB cI cJ cZ cS : ClassId} {a b b2 c0 : Nat → Nat} {rg sl : Nat → Option Nat} {r : Int32} {s' : XS} {s : XS} (hB : kX10_open s = some (r, s')) : CI l yX10_open wsX10_open ({ frames := 1, cells := 0, slots := 0, locals := 22 }) (dC, dI) (tysA cB cI cJ cZ cS) (wX cB cI cJ cZ cS a b b2 c0 rg sl s) [.ref (c0 0)] (fun x u => x = r ∧ u = (wX cB cI cJ cZ cS a b b2 c0 rg sl s')) :=
  CI_of (cc := cX10_open) (maxL := 3) (ret := (some .int)) (by decide) rfl (Nat.le_of_ble_eq_true rfl) (bkX10_open _ hB)
theorem LX10_buoysLying_19 : Cond.fieldLink RX10 19 "GuessFerry" "sound" "LGuessFerry$Sound;" ∈ wsX10_buoysLying := by decide +kernel
theorem LX10_buoysLying_35 : Cond.fieldLink RX10 35 "GuessFerry" "now" "LGuessFerry$Standing;" ∈ wsX10_buoysLying := by decide +kernel
theorem inX10_buoysLying_X10 : ∀ w ∈ u_ws RX10 TX10 9, w ∈ wsX10_buoysLying := by decide +kernel
theorem inX10_buoysLying_X5 : ∀ w ∈ u_ws RX5 TX5 10, w ∈ wsX10_buoysLying := by decide +kernel
theorem inX10_buoysLying_X6 : ∀ w ∈ u_ws RX6 TX6 7, w ∈ wsX10_buoysLying := by decide +kernel
set_option maxHeartbeats 4000000 in
set_option maxRecDepth 100000 in
theorem bkX10_buoysLying_4 {l : Launch} {dC : Nat → ClassId} {dI : Nat → Nat → Nat} {cB cI cJ cZ cS : ClassId} {a b b2 c0 : Nat → Nat} {rg sl : Nat → Option Nat} {as : List Value} {r : Int32} {s' : XS} {k4 : XS → Int32 → Int32 → Option (Int32 × XS)} (hk4 : ∀ (s : XS) (x1 : Int32) (x2 : Int32), k4 s x1 x2 = some (r, s') → BlkI l yX10_buoysLying wsX10_buoysLying ({ frames := 1, cells := 0, slots := 0, locals := 20 }) cX10_buoysLying 3 (some .int) (dC, dI) (tysA cB cI cJ cZ cS) as 4 (wX cB cI cJ cZ cS a b b2 c0 rg sl s) [(0, .ref (c0 0)), (1, .int x1), (2, .int x2)] [] (fun x u => x = r ∧ u = (wX cB cI cJ cZ cS a b b2 c0 rg sl s'))) (s : XS) (x1 : Int32) (x2 : Int32) (hB : kX10_buoysLying_4 k4 s x1 x2 = some (r, s')) : BlkI l yX10_buoysLying wsX10_buoysLying ({ frames := 1, cells := 0, slots := 0, locals := 20 }) cX10_buoysLying 3 (some .int) (dC, dI) (tysA cB cI cJ cZ cS) as 4 (wX cB cI cJ cZ cS a b b2 c0 rg sl s) [(0, .ref (c0 0)), (1, .int x1), (2, .int x2)] [] (fun x u => x = r ∧ u = (wX cB cI cJ cZ cS a b b2 c0 rg sl s')) := by
  intro p e s0 m below meth c A E H locs ls hP hD hS hl
  obtain ⟨C, hr, hlocks, hA, hK, hN⟩ := id E
  obtain ⟨hx, hb, hml, hown, hts⟩ := id C
  unfold kX10_buoysLying_4 at hB
  refine lv_iload_n hx hb dX10_buoysLying_4 rfl (lv_at hl 2 rfl) ?_
  refine lv_aload_n hx hb dX10_buoysLying_5 rfl (lv_at hl 0 rfl) ?_
  refine q_get (v := .ref (a 2)) C inX10_buoysLying_X10 hK hP 0 rfl rfl 1 (by decide) rfl LX10_buoysLying_19 rfl dX10_buoysLying_6 ?_
  refine q_getN (v := .int (s.k.v 1)) C hN inX10_buoysLying_X5 hK hP 19 rfl rfl 6 (by decide) rfl nwF_X10_167 rfl dX10_buoysLying_9 ?_
  refine lv_icmp_ge (tgt := 36) hx hb dX10_buoysLying_12 (by decide) (fun c1 => ?_) (fun c1 => ?_)
  · have hB := if_p hB c1
    refine lv_iload_n hx hb dX10_buoysLying_36 rfl (lv_at hl 1 rfl) ?_
    exact q_iret C hr hlocks hK hP hD hS (Nat.le_of_ble_eq_true rfl) (Nat.le_of_ble_eq_true rfl) dX10_buoysLying_37 (by cases hB; exact ⟨rfl, rfl⟩)
  · have hB := if_n hB c1
    refine lv_iload_n hx hb dX10_buoysLying_15 rfl (lv_at hl 1 rfl) ?_
    refine lv_aload_n hx hb dX10_buoysLying_16 rfl (lv_at hl 0 rfl) ?_
    refine q_get (v := .ref (b 0)) C inX10_buoysLying_X10 hK hP 0 rfl rfl 3 (by decide) rfl LX10_buoysLying_35 rfl dX10_buoysLying_17 ?_
    refine q_getN (v := .ref (b 2)) C hN inX10_buoysLying_X6 hK hP 11 rfl rfl 1 (by decide) rfl nwF_X10_119 rfl dX10_buoysLying_20 ?_
    refine lv_iload_n hx hb dX10_buoysLying_23 rfl (lv_at hl 2 rfl) ?_
    obtain ⟨g2, hB⟩ := guard_inv hB
    refine q_iald (x := ((s.n.f 1) (Int32.toNatClampNeg x2))) C hK hP 13 1 rfl rfl (vpb_in g2) dX10_buoysLying_24 rfl ?_
    obtain ⟨q_, hc, hB⟩ := bindP_inv hB
    refine q_goi0 (va_runS (As := [.int ((s.n.f 1) (Int32.toNatClampNeg x2))]) (rest := [.int x1]) C (ckJ6_bitCount_0f7a4 hc _) (va_cwS 1 hts gX10_buoysLying_J6_bitCount_0f7a4 rfl rfl rfl (by decide +kernel) ⟨Nat.le_of_ble_eq_true rfl, Nat.le_of_ble_eq_true rfl⟩) (q_pre0 hN hK) rfl rfl hl.1 rfl (lv_room (Nat.le_of_ble_eq_true rfl)) dX10_buoysLying_25 ⟨Nat.le_of_ble_eq_true rfl, Nat.le_of_ble_eq_true rfl⟩) hP hD hS hA (fun r3 w1 H locs hw hP hS => ?_)
    subst hw
    refine lv_iadd hx hb dX10_buoysLying_28 ?_
    refine lv_istore_n (lv' := [(1, .int (x1 + r3)), (0, .ref (c0 0)), (2, .int x2)]) hx hb dX10_buoysLying_29 rfl hl (by decide) rfl (fun ls hl => ?_)
    refine lv_iinc (v := (x2 + 1)) (lv' := [(2, .int (x2 + 1)), (1, .int (x1 + r3)), (0, .ref (c0 0))]) hx hb dX10_buoysLying_30 hl (k := 2) rfl (rfl) (by decide) rfl (fun ls hl => ?_)
    refine lv_goto (tgt := 4) hx hb dX10_buoysLying_33 (by decide) ?_
    exact hk4 _ _ _ hB p e s0 m below meth c A E H locs ls hP hD hS (lv_sub hl [2, 1, 0] rfl)
theorem bkX10_buoysLying_4L {l : Launch} {dC : Nat → ClassId} {dI : Nat → Nat → Nat} {cB cI cJ cZ cS : ClassId} {a b b2 c0 : Nat → Nat} {rg sl : Nat → Option Nat} {as : List Value} {r : Int32} {s' : XS} : ∀ (n : Nat) (s : XS) (x1 : Int32) (x2 : Int32), kX10_buoysLying_4L n s x1 x2 = some (r, s') → BlkI l yX10_buoysLying wsX10_buoysLying ({ frames := 1, cells := 0, slots := 0, locals := 20 }) cX10_buoysLying 3 (some .int) (dC, dI) (tysA cB cI cJ cZ cS) as 4 (wX cB cI cJ cZ cS a b b2 c0 rg sl s) [(0, .ref (c0 0)), (1, .int x1), (2, .int x2)] [] (fun x u => x = r ∧ u = (wX cB cI cJ cZ cS a b b2 c0 rg sl s')) := by
  intro n
  induction n with
  | zero => intro s x1 x2 hB; exact none_ne hB
  | succ n ih => intro s x1 x2 hB; exact bkX10_buoysLying_4 ih _ _ _ hB
set_option maxHeartbeats 4000000 in
set_option maxRecDepth 100000 in
theorem bkX10_buoysLying {l : Launch} {dC : Nat → ClassId} {dI : Nat → Nat → Nat} {cB cI cJ cZ cS : ClassId} {a b b2 c0 : Nat → Nat} {rg sl : Nat → Option Nat} {as : List Value} {r : Int32} {s' : XS} (s : XS) (hB : kX10_buoysLying s = some (r, s')) : BlkI l yX10_buoysLying wsX10_buoysLying ({ frames := 1, cells := 0, slots := 0, locals := 20 }) cX10_buoysLying 3 (some .int) (dC, dI) (tysA cB cI cJ cZ cS) as 0 (wX cB cI cJ cZ cS a b b2 c0 rg sl s) [(0, .ref (c0 0))] [] (fun x u => x = r ∧ u = (wX cB cI cJ cZ cS a b b2 c0 rg sl s')) := by
  intro p e s0 m below meth c A E H locs ls hP hD hS hl
  obtain ⟨C, hr, hlocks, hA, hK, hN⟩ := id E
  obtain ⟨hx, hb, hml, hown, hts⟩ := id C
  unfold kX10_buoysLying at hB
  refine lv_iconst (v := 0) hx hb dX10_buoysLying_0 (by decide) ?_
  refine lv_istore_n (lv' := [(1, .int 0), (0, .ref (c0 0))]) hx hb dX10_buoysLying_1 rfl hl (by decide) rfl (fun ls hl => ?_)
  refine lv_iconst (v := 0) hx hb dX10_buoysLying_2 (by decide) ?_
  refine lv_istore_n (lv' := [(2, .int 0), (1, .int 0), (0, .ref (c0 0))]) hx hb dX10_buoysLying_3 rfl hl (by decide) rfl (fun ls hl => ?_)
  exact bkX10_buoysLying_4L fu _ _ _ hB p e s0 m below meth c A E H locs ls hP hD hS (lv_sub hl [2, 1, 0] rfl)
theorem ckX10_buoysLying {l : Launch} {dC : Nat → ClassId} {dI : Nat → Nat → Nat} {cB cI cJ cZ cS : ClassId} {a b b2 c0 : Nat → Nat} {rg sl : Nat → Option Nat} {r : Int32} {s' : XS} {s : XS} (hB : kX10_buoysLying s = some (r, s')) : CI l yX10_buoysLying wsX10_buoysLying ({ frames := 1, cells := 0, slots := 0, locals := 20 }) (dC, dI) (tysA cB cI cJ cZ cS) (wX cB cI cJ cZ cS a b b2 c0 rg sl s) [.ref (c0 0)] (fun x u => x = r ∧ u = (wX cB cI cJ cZ cS a b b2 c0 rg sl s')) :=
  CI_of (cc := cX10_buoysLying) (maxL := 3) (ret := (some .int)) (by decide) rfl (Nat.le_of_ble_eq_true rfl) (bkX10_buoysLying _ hB)
set_option maxHeartbeats 4000000 in
set_option maxRecDepth 100000 in
theorem bkX10_lot {l : Launch} {dC : Nat → ClassId} {dI : Nat → Nat → Nat} {cB cI cJ cZ cS : ClassId} {as : List Value} {r : Int32} (x0 : Int32) (x1 : Int32) (x2 : Int32) (hB : kX10_lot x0 x1 x2 = some r) : BlkI l yX10_lot wsX10_lot ({ frames := 1, cells := 0, slots := 0, locals := 22 }) cX10_lot 4 (some .int) (dC, dI) (tysA cB cI cJ cZ cS) as 0 [] [(0, .int x0), (1, .int x1), (2, .int x2)] [] (fun x _ => x = r) := by
  intro p e s0 m below meth c A E H locs ls hP hD hS hl
  obtain ⟨C, hr, hlocks, hA, hK, hN⟩ := id E
  obtain ⟨hx, hb, hml, hown, hts⟩ := id C
  unfold kX10_lot at hB
  refine lv_iload_n hx hb dX10_lot_0 rfl (lv_at hl 0 rfl) ?_
  refine lv_if_gt (tgt := 6) hx hb dX10_lot_1 (by decide) (fun c1 => ?_) (fun c1 => ?_)
  · have hB := if_p hB c1
    refine lv_iload_n hx hb dX10_lot_6 rfl (lv_at hl 1 rfl) ?_
    refine lv_sipush (v := 173) hx hb dX10_lot_7 (by decide) ?_
    obtain ⟨q_, hc, hB⟩ := bindP_inv hB
    refine q_goi0 (va_runS (As := [.int x1, .int 173]) (rest := []) C (ckX10_stirred hc _) (va_cwS 2 hts gX10_lot_X10_stirred rfl rfl rfl (by decide +kernel) ⟨Nat.le_of_ble_eq_true rfl, Nat.le_of_ble_eq_true rfl⟩) (q_pre0 hN hK) rfl rfl hl.1 rfl (lv_room (Nat.le_of_ble_eq_true rfl)) dX10_lot_10 ⟨Nat.le_of_ble_eq_true rfl, Nat.le_of_ble_eq_true rfl⟩) hP hD hS hA (fun r2 w1 H locs hw hP hS => ?_)
    subst hw
    refine lv_iload_n hx hb dX10_lot_13 rfl (lv_at hl 2 rfl) ?_
    obtain ⟨q_, hc, hB⟩ := bindP_inv hB
    refine q_goi0 (va_runS (As := [.int r2, .int x2]) (rest := []) C (ckX10_stirred hc _) (va_cwS 2 hts gX10_lot_X10_stirred rfl rfl rfl (by decide +kernel) ⟨Nat.le_of_ble_eq_true rfl, Nat.le_of_ble_eq_true rfl⟩) (q_pre0 hN hK) rfl rfl hl.1 rfl (lv_room (Nat.le_of_ble_eq_true rfl)) dX10_lot_14 ⟨Nat.le_of_ble_eq_true rfl, Nat.le_of_ble_eq_true rfl⟩) hP hD hS hA (fun r3 w1 H locs hw hP hS => ?_)
    subst hw
    refine lv_istore_n (lv' := [(3, .int r3), (0, .int x0), (1, .int x1), (2, .int x2)]) hx hb dX10_lot_17 rfl hl (by decide) rfl (fun ls hl => ?_)
    refine lv_iload_n hx hb dX10_lot_18 rfl (lv_at hl 0 rfl) ?_
    refine lv_iconst (v := 1) hx hb dX10_lot_19 (by decide) ?_
    refine lv_iushr (v := (ushr r3 1)) hx hb dX10_lot_20 rfl ?_
    refine lv_iload_n hx hb dX10_lot_21 rfl (lv_at hl 1 rfl) ?_
    obtain ⟨z4, hB⟩ := guard_inv hB
    refine lv_irem hx hb dX10_lot_22 z4 ?_
    exact q_iret C hr hlocks hK hP hD hS (Nat.le_of_ble_eq_true rfl) (Nat.le_of_ble_eq_true rfl) dX10_lot_23 (by cases hB; rfl)
  · have hB := if_n hB c1
    refine lv_iconst (v := 0) hx hb dX10_lot_4 (by decide) ?_
    exact q_iret C hr hlocks hK hP hD hS (Nat.le_of_ble_eq_true rfl) (Nat.le_of_ble_eq_true rfl) dX10_lot_5 (by cases hB; rfl)
theorem ckX10_lot {l : Launch} {dC : Nat → ClassId} {dI : Nat → Nat → Nat} {cB cI cJ cZ cS : ClassId} {r : Int32} {x0 : Int32} {x1 : Int32} {x2 : Int32} (hB : kX10_lot x0 x1 x2 = some r) : CI l yX10_lot wsX10_lot ({ frames := 1, cells := 0, slots := 0, locals := 22 }) (dC, dI) (tysA cB cI cJ cZ cS) [] [.int x0, .int x1, .int x2] (fun x _ => x = r) :=
  CI_of (cc := cX10_lot) (maxL := 4) (ret := (some .int)) (by decide) rfl (Nat.le_of_ble_eq_true rfl) (bkX10_lot _ _ _ hB)
theorem LX1_clear_34 : Cond.fieldLink RX1 34 "GuessFerry$Laws" "length" "I" ∈ wsX1_clear := by decide +kernel
theorem inX1_clear_X1 : ∀ w ∈ u_ws RX1 TX1 9, w ∈ wsX1_clear := by decide +kernel
set_option maxHeartbeats 4000000 in
set_option maxRecDepth 100000 in
theorem bkX1_clear {l : Launch} {dC : Nat → ClassId} {dI : Nat → Nat → Nat} {cB cI cJ cZ cS : ClassId} {a : Nat → Nat} {as : List Value} {s' : KS} (s : KS) (hB : kX1_clear s = some s') : BlkV l yX1_clear wsX1_clear ({ frames := 2, cells := 0, slots := 0, locals := 42 }) cX1_clear 1 none (dC, dI) (tysA cB cI cJ cZ cS) as 0 (wK cB cI cJ cZ cS a s) [(0, .ref (a 21))] [] (fun u => u = (wK cB cI cJ cZ cS a s')) := by
  intro p e s0 m below meth c A E H locs ls hP hD hS hl
  obtain ⟨C, hr, hlocks, hA, hK, hN⟩ := id E
  obtain ⟨hx, hb, hml, hown, hts⟩ := id C
  unfold kX1_clear at hB
  refine lv_aload_n hx hb dX1_clear_0 rfl (lv_at hl 0 rfl) ?_
  refine lv_iconst (v := 0) hx hb dX1_clear_1 (by decide) ?_
  obtain ⟨s1, hs2, hB⟩ := letS_inv hB
  refine q_put (ty := .int) (w2 := (wK cB cI cJ cZ cS a s1)) tyX1 tyX1_ok nmX1 C inX1_clear_X1 hK hP hD hS 21 rfl rfl 6 (by decide) rfl LX1_clear_34 rfl (by decide +kernel) (rfl) rfl (Nat.le_of_ble_eq_true rfl) dX1_clear_2 (by subst hs2; rfl) (fun H locs hP hD hS => ?_)
  refine lv_aload_n hx hb dX1_clear_5 rfl (lv_at hl 0 rfl) ?_
  refine lv_iconst (v := 0) hx hb dX1_clear_6 (by decide) ?_
  obtain ⟨s3, hc, hB⟩ := bindP_inv hB
  refine q_govF (va_runV (As := [.int 0]) (rest := []) C (ckX1_begin hc _) (cwV 1 hts gX1_clear_X1_begin rfl rfl rfl (by decide +kernel) ⟨Nat.le_of_ble_eq_true rfl, Nat.le_of_ble_eq_true rfl⟩) (q_preV hK hP (ci := 1) (q0 := 21) rfl rfl rfl (q_preF hN hK hP hD)) rfl rfl hl.1 rfl (lv_room (Nat.le_of_ble_eq_true rfl)) dX1_clear_7 ⟨Nat.le_of_ble_eq_true rfl, Nat.le_of_ble_eq_true rfl⟩) hD hS hA (fun w1 H locs hw hP hD hS => ?_)
  subst hw
  refine lv_aload_n hx hb dX1_clear_10 rfl (lv_at hl 0 rfl) ?_
  refine lv_iconst (v := 2) hx hb dX1_clear_11 (by decide) ?_
  obtain ⟨s4, hc, hB⟩ := bindP_inv hB
  refine q_govF (va_runV (As := [.int 2]) (rest := []) C (ckX1_putVar hc _) (cwV 1 hts gX1_clear_X1_putVar rfl rfl rfl (by decide +kernel) ⟨Nat.le_of_ble_eq_true rfl, Nat.le_of_ble_eq_true rfl⟩) (q_preV hK hP (ci := 1) (q0 := 21) rfl rfl rfl (q_preF hN hK hP hD)) rfl rfl hl.1 rfl (lv_room (Nat.le_of_ble_eq_true rfl)) dX1_clear_12 ⟨Nat.le_of_ble_eq_true rfl, Nat.le_of_ble_eq_true rfl⟩) hD hS hA (fun w1 H locs hw hP hD hS => ?_)
  subst hw
  refine lv_aload_n hx hb dX1_clear_15 rfl (lv_at hl 0 rfl) ?_
  obtain ⟨s5, hc, hB⟩ := bindP_inv hB
  refine q_govF (va_runV (As := []) (rest := []) C (ckX1_endPart hc _) (cwV 0 hts gX1_clear_X1_endPart rfl rfl rfl (by decide +kernel) ⟨Nat.le_of_ble_eq_true rfl, Nat.le_of_ble_eq_true rfl⟩) (q_preV hK hP (ci := 1) (q0 := 21) rfl rfl rfl (q_preF hN hK hP hD)) rfl rfl hl.1 rfl (lv_room (Nat.le_of_ble_eq_true rfl)) dX1_clear_16 ⟨Nat.le_of_ble_eq_true rfl, Nat.le_of_ble_eq_true rfl⟩) hD hS hA (fun w1 H locs hw hP hD hS => ?_)
  subst hw
  refine lv_aload_n hx hb dX1_clear_19 rfl (lv_at hl 0 rfl) ?_
  refine lv_iconst (v := 1) hx hb dX1_clear_20 (by decide) ?_
  obtain ⟨s6, hc, hB⟩ := bindP_inv hB
  refine q_govF (va_runV (As := [.int 1]) (rest := []) C (ckX1_begin hc _) (cwV 1 hts gX1_clear_X1_begin rfl rfl rfl (by decide +kernel) ⟨Nat.le_of_ble_eq_true rfl, Nat.le_of_ble_eq_true rfl⟩) (q_preV hK hP (ci := 1) (q0 := 21) rfl rfl rfl (q_preF hN hK hP hD)) rfl rfl hl.1 rfl (lv_room (Nat.le_of_ble_eq_true rfl)) dX1_clear_21 ⟨Nat.le_of_ble_eq_true rfl, Nat.le_of_ble_eq_true rfl⟩) hD hS hA (fun w1 H locs hw hP hD hS => ?_)
  subst hw
  refine lv_aload_n hx hb dX1_clear_24 rfl (lv_at hl 0 rfl) ?_
  refine lv_iconst (v := 1) hx hb dX1_clear_25 (by decide) ?_
  obtain ⟨s7, hc, hB⟩ := bindP_inv hB
  refine q_govF (va_runV (As := [.int 1]) (rest := []) C (ckX1_putNumber hc _) (cwV 1 hts gX1_clear_X1_putNumber rfl rfl rfl (by decide +kernel) ⟨Nat.le_of_ble_eq_true rfl, Nat.le_of_ble_eq_true rfl⟩) (q_preV hK hP (ci := 1) (q0 := 21) rfl rfl rfl (q_preF hN hK hP hD)) rfl rfl hl.1 rfl (lv_room (Nat.le_of_ble_eq_true rfl)) dX1_clear_26 ⟨Nat.le_of_ble_eq_true rfl, Nat.le_of_ble_eq_true rfl⟩) hD hS hA (fun w1 H locs hw hP hD hS => ?_)
  subst hw
  refine lv_aload_n hx hb dX1_clear_29 rfl (lv_at hl 0 rfl) ?_
  obtain ⟨s8, hc, hB⟩ := bindP_inv hB
  refine q_govF (va_runV (As := []) (rest := []) C (ckX1_endPart hc _) (cwV 0 hts gX1_clear_X1_endPart rfl rfl rfl (by decide +kernel) ⟨Nat.le_of_ble_eq_true rfl, Nat.le_of_ble_eq_true rfl⟩) (q_preV hK hP (ci := 1) (q0 := 21) rfl rfl rfl (q_preF hN hK hP hD)) rfl rfl hl.1 rfl (lv_room (Nat.le_of_ble_eq_true rfl)) dX1_clear_30 ⟨Nat.le_of_ble_eq_true rfl, Nat.le_of_ble_eq_true rfl⟩) hD hS hA (fun w1 H locs hw hP hD hS => ?_)
  subst hw
  refine lv_aload_n hx hb dX1_clear_33 rfl (lv_at hl 0 rfl) ?_
  refine lv_iconst (v := 2) hx hb dX1_clear_34 (by decide) ?_
  obtain ⟨s9, hc, hB⟩ := bindP_inv hB
  refine q_govF (va_runV (As := [.int 2]) (rest := []) C (ckX1_begin hc _) (cwV 1 hts gX1_clear_X1_begin rfl rfl rfl (by decide +kernel) ⟨Nat.le_of_ble_eq_true rfl, Nat.le_of_ble_eq_true rfl⟩) (q_preV hK hP (ci := 1) (q0 := 21) rfl rfl rfl (q_preF hN hK hP hD)) rfl rfl hl.1 rfl (lv_room (Nat.le_of_ble_eq_true rfl)) dX1_clear_35 ⟨Nat.le_of_ble_eq_true rfl, Nat.le_of_ble_eq_true rfl⟩) hD hS hA (fun w1 H locs hw hP hD hS => ?_)
  subst hw
  refine lv_aload_n hx hb dX1_clear_38 rfl (lv_at hl 0 rfl) ?_
  refine lv_iconst (v := 1) hx hb dX1_clear_39 (by decide) ?_
  obtain ⟨s10, hc, hB⟩ := bindP_inv hB
  refine q_govF (va_runV (As := [.int 1]) (rest := []) C (ckX1_putNumber hc _) (cwV 1 hts gX1_clear_X1_putNumber rfl rfl rfl (by decide +kernel) ⟨Nat.le_of_ble_eq_true rfl, Nat.le_of_ble_eq_true rfl⟩) (q_preV hK hP (ci := 1) (q0 := 21) rfl rfl rfl (q_preF hN hK hP hD)) rfl rfl hl.1 rfl (lv_room (Nat.le_of_ble_eq_true rfl)) dX1_clear_40 ⟨Nat.le_of_ble_eq_true rfl, Nat.le_of_ble_eq_true rfl⟩) hD hS hA (fun w1 H locs hw hP hD hS => ?_)
  subst hw
  refine lv_aload_n hx hb dX1_clear_43 rfl (lv_at hl 0 rfl) ?_
  obtain ⟨s11, hc, hB⟩ := bindP_inv hB
  refine q_govF (va_runV (As := []) (rest := []) C (ckX1_endPart hc _) (cwV 0 hts gX1_clear_X1_endPart rfl rfl rfl (by decide +kernel) ⟨Nat.le_of_ble_eq_true rfl, Nat.le_of_ble_eq_true rfl⟩) (q_preV hK hP (ci := 1) (q0 := 21) rfl rfl rfl (q_preF hN hK hP hD)) rfl rfl hl.1 rfl (lv_room (Nat.le_of_ble_eq_true rfl)) dX1_clear_44 ⟨Nat.le_of_ble_eq_true rfl, Nat.le_of_ble_eq_true rfl⟩) hD hS hA (fun w1 H locs hw hP hD hS => ?_)
  subst hw
  refine lv_aload_n hx hb dX1_clear_47 rfl (lv_at hl 0 rfl) ?_
  refine lv_iconst (v := 3) hx hb dX1_clear_48 (by decide) ?_
  obtain ⟨s12, hc, hB⟩ := bindP_inv hB
  refine q_govF (va_runV (As := [.int 3]) (rest := []) C (ckX1_begin hc _) (cwV 1 hts gX1_clear_X1_begin rfl rfl rfl (by decide +kernel) ⟨Nat.le_of_ble_eq_true rfl, Nat.le_of_ble_eq_true rfl⟩) (q_preV hK hP (ci := 1) (q0 := 21) rfl rfl rfl (q_preF hN hK hP hD)) rfl rfl hl.1 rfl (lv_room (Nat.le_of_ble_eq_true rfl)) dX1_clear_49 ⟨Nat.le_of_ble_eq_true rfl, Nat.le_of_ble_eq_true rfl⟩) hD hS hA (fun w1 H locs hw hP hD hS => ?_)
  subst hw
  refine lv_aload_n hx hb dX1_clear_52 rfl (lv_at hl 0 rfl) ?_
  refine lv_iconst (v := 0) hx hb dX1_clear_53 (by decide) ?_
  obtain ⟨s13, hc, hB⟩ := bindP_inv hB
  refine q_govF (va_runV (As := [.int 0]) (rest := []) C (ckX1_putNumber hc _) (cwV 1 hts gX1_clear_X1_putNumber rfl rfl rfl (by decide +kernel) ⟨Nat.le_of_ble_eq_true rfl, Nat.le_of_ble_eq_true rfl⟩) (q_preV hK hP (ci := 1) (q0 := 21) rfl rfl rfl (q_preF hN hK hP hD)) rfl rfl hl.1 rfl (lv_room (Nat.le_of_ble_eq_true rfl)) dX1_clear_54 ⟨Nat.le_of_ble_eq_true rfl, Nat.le_of_ble_eq_true rfl⟩) hD hS hA (fun w1 H locs hw hP hD hS => ?_)
  subst hw
  refine lv_aload_n hx hb dX1_clear_57 rfl (lv_at hl 0 rfl) ?_
  obtain ⟨s14, hc, hB⟩ := bindP_inv hB
  refine q_govF (va_runV (As := []) (rest := []) C (ckX1_endPart hc _) (cwV 0 hts gX1_clear_X1_endPart rfl rfl rfl (by decide +kernel) ⟨Nat.le_of_ble_eq_true rfl, Nat.le_of_ble_eq_true rfl⟩) (q_preV hK hP (ci := 1) (q0 := 21) rfl rfl rfl (q_preF hN hK hP hD)) rfl rfl hl.1 rfl (lv_room (Nat.le_of_ble_eq_true rfl)) dX1_clear_58 ⟨Nat.le_of_ble_eq_true rfl, Nat.le_of_ble_eq_true rfl⟩) hD hS hA (fun w1 H locs hw hP hD hS => ?_)
  subst hw
  exact q_vret C hr hlocks hK hP hD hS (Nat.le_of_ble_eq_true rfl) (Nat.le_of_ble_eq_true rfl) dX1_clear_61 (by cases hB; rfl)
theorem ckX1_clear {l : Launch} {dC : Nat → ClassId} {dI : Nat → Nat → Nat} {cB cI cJ cZ cS : ClassId} {a : Nat → Nat} {s' : KS} {s : KS} (hB : kX1_clear s = some s') : CV l yX1_clear wsX1_clear ({ frames := 2, cells := 0, slots := 0, locals := 42 }) (dC, dI) (tysA cB cI cJ cZ cS) (wK cB cI cJ cZ cS a s) [.ref (a 21)] (fun u => u = (wK cB cI cJ cZ cS a s')) :=
  CV_of (cc := cX1_clear) (maxL := 1) (ret := none) (by decide) rfl (Nat.le_of_ble_eq_true rfl) (bkX1_clear _ hB)
