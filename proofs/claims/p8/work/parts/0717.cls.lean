theorem ggX10_likeliest_X2_bestGuess : GoodIn wsX10_likeliest wsX2_bestGuess := gi_sub (fun w h => List.mem_cons_of_mem _ (List.mem_append_left _ (List.mem_append_left _ (List.mem_append_left _ (List.mem_append_left _ (List.mem_append_left _ (List.mem_append_left _ (List.mem_append_right _ h)))))))) gd_wsX2_bestGuess
set_option maxRecDepth 20000 in
theorem gX10_likeliest_X2_bestGuess_n206 : GoodIn wsX10_likeliest (wsX2_bestGuess) := ggX10_likeliest_X2_bestGuess
theorem dX10_likeliest_0 : decode cX10_likeliest 0 = .ok (.aload_n 0, 1) := dc1_42 (by decide +kernel)
theorem dX10_likeliest_1 : decode cX10_likeliest 1 = .ok (.getfield 63, 3) := dcw_180 (by decide +kernel)
theorem dX10_likeliest_4 : decode cX10_likeliest 4 = .ok (.aload_n 0, 1) := dc1_42 (by decide +kernel)
theorem dX10_likeliest_5 : decode cX10_likeliest 5 = .ok (.getfield 35, 3) := dcw_180 (by decide +kernel)
theorem dX10_likeliest_8 : decode cX10_likeliest 8 = .ok (.iconst (-1), 1) := dc1_2 (by decide +kernel)
theorem dX10_likeliest_9 : decode cX10_likeliest 9 = .ok (.invokevirtual 206, 3) := dcw_182 (by decide +kernel)
theorem dX10_likeliest_12 : decode cX10_likeliest 12 = .ok (.ireturn, 1) := dc1_172 (by decide +kernel)
theorem ggX10_safest_X5_hasParty : GoodIn wsX10_safest wsX5_hasParty := gi_sub (fun w h => List.mem_cons_of_mem _ (List.mem_append_left _ (List.mem_append_left _ (List.mem_append_left _ (List.mem_append_left _ (List.mem_append_left _ (List.mem_append_left _ (List.mem_append_right _ (List.mem_append_left _ h))))))))) gd_wsX5_hasParty
set_option maxRecDepth 20000 in
theorem gX10_safest_X5_hasParty_n138 : GoodIn wsX10_safest (wsX5_hasParty) := ggX10_safest_X5_hasParty
theorem ggX10_safest_X2_bestGuess : GoodIn wsX10_safest wsX2_bestGuess := gi_sub (fun w h => List.mem_cons_of_mem _ (List.mem_append_left _ (List.mem_append_left _ (List.mem_append_left _ (List.mem_append_left _ (List.mem_append_left _ (List.mem_append_left _ (List.mem_append_right _ (List.mem_append_right _ h))))))))) gd_wsX2_bestGuess
set_option maxRecDepth 20000 in
theorem gX10_safest_X2_bestGuess_n206 : GoodIn wsX10_safest (wsX2_bestGuess) := ggX10_safest_X2_bestGuess
theorem dX10_safest_0 : decode cX10_safest 0 = .ok (.aload_n 0, 1) := dc1_42 (by decide +kernel)
theorem dX10_safest_1 : decode cX10_safest 1 = .ok (.getfield 19, 3) := dcw_180 (by decide +kernel)
theorem dX10_safest_4 : decode cX10_safest 4 = .ok (.iload_n 1, 1) := dc1_27 (by decide +kernel)
theorem dX10_safest_5 : decode cX10_safest 5 = .ok (.invokevirtual 138, 3) := dcw_182 (by decide +kernel)
theorem dX10_safest_8 : decode cX10_safest 8 = .ok (.ifCond .eq 18, 3) := dcs_153 (n := 18) (by decide +kernel)
theorem dX10_safest_11 : decode cX10_safest 11 = .ok (.aload_n 0, 1) := dc1_42 (by decide +kernel)
theorem dX10_safest_12 : decode cX10_safest 12 = .ok (.getfield 63, 3) := dcw_180 (by decide +kernel)
theorem dX10_safest_15 : decode cX10_safest 15 = .ok (.aload_n 0, 1) := dc1_42 (by decide +kernel)
theorem dX10_safest_16 : decode cX10_safest 16 = .ok (.getfield 35, 3) := dcw_180 (by decide +kernel)
theorem dX10_safest_19 : decode cX10_safest 19 = .ok (.iload_n 1, 1) := dc1_27 (by decide +kernel)
theorem dX10_safest_20 : decode cX10_safest 20 = .ok (.invokevirtual 206, 3) := dcw_182 (by decide +kernel)
theorem dX10_safest_23 : decode cX10_safest 23 = .ok (.goto 4, 3) := dcs_167 (n := 4) (by decide +kernel)
theorem dX10_safest_26 : decode cX10_safest 26 = .ok (.iconst (-1), 1) := dc1_2 (by decide +kernel)
theorem dX10_safest_27 : decode cX10_safest 27 = .ok (.ireturn, 1) := dc1_172 (by decide +kernel)
theorem ggX10_stuck_X2_bestGuess : GoodIn wsX10_stuck wsX2_bestGuess := gi_sub (fun w h => List.mem_cons_of_mem _ (List.mem_append_left _ (List.mem_append_left _ (List.mem_append_left _ (List.mem_append_left _ (List.mem_append_left _ (List.mem_append_left _ (List.mem_append_right _ h)))))))) gd_wsX2_bestGuess
set_option maxRecDepth 20000 in
theorem gX10_stuck_X2_bestGuess_n206 : GoodIn wsX10_stuck (wsX2_bestGuess) := ggX10_stuck_X2_bestGuess
theorem dX10_stuck_0 : decode cX10_stuck 0 = .ok (.iconst 0, 1) := dc1_3 (by decide +kernel)
theorem dX10_stuck_1 : decode cX10_stuck 1 = .ok (.istore_n 1, 1) := dc1_60 (by decide +kernel)
theorem dX10_stuck_2 : decode cX10_stuck 2 = .ok (.iconst 0, 1) := dc1_3 (by decide +kernel)
theorem dX10_stuck_3 : decode cX10_stuck 3 = .ok (.istore_n 2, 1) := dc1_61 (by decide +kernel)
theorem dX10_stuck_4 : decode cX10_stuck 4 = .ok (.iload_n 2, 1) := dc1_28 (by decide +kernel)
theorem dX10_stuck_5 : decode cX10_stuck 5 = .ok (.aload_n 0, 1) := dc1_42 (by decide +kernel)
theorem dX10_stuck_6 : decode cX10_stuck 6 = .ok (.getfield 19, 3) := dcw_180 (by decide +kernel)
theorem dX10_stuck_9 : decode cX10_stuck 9 = .ok (.getfield 235, 3) := dcw_180 (by decide +kernel)
theorem dX10_stuck_12 : decode cX10_stuck 12 = .ok (.if_icmp .ge 44, 3) := dcs_162 (n := 44) (by decide +kernel)
theorem dX10_stuck_15 : decode cX10_stuck 15 = .ok (.aload_n 0, 1) := dc1_42 (by decide +kernel)
theorem dX10_stuck_16 : decode cX10_stuck 16 = .ok (.getfield 35, 3) := dcw_180 (by decide +kernel)
theorem dX10_stuck_19 : decode cX10_stuck 19 = .ok (.getfield 147, 3) := dcw_180 (by decide +kernel)
theorem dX10_stuck_22 : decode cX10_stuck 22 = .ok (.iload_n 2, 1) := dc1_28 (by decide +kernel)
theorem dX10_stuck_23 : decode cX10_stuck 23 = .ok (.iaload, 1) := dc1_46 (by decide +kernel)
theorem dX10_stuck_24 : decode cX10_stuck 24 = .ok (.ifCond .ne 26, 3) := dcs_154 (n := 26) (by decide +kernel)
theorem dX10_stuck_27 : decode cX10_stuck 27 = .ok (.aload_n 0, 1) := dc1_42 (by decide +kernel)
theorem dX10_stuck_28 : decode cX10_stuck 28 = .ok (.getfield 63, 3) := dcw_180 (by decide +kernel)
theorem dX10_stuck_31 : decode cX10_stuck 31 = .ok (.aload_n 0, 1) := dc1_42 (by decide +kernel)
theorem dX10_stuck_32 : decode cX10_stuck 32 = .ok (.getfield 35, 3) := dcw_180 (by decide +kernel)
theorem dX10_stuck_35 : decode cX10_stuck 35 = .ok (.iload_n 2, 1) := dc1_28 (by decide +kernel)
theorem dX10_stuck_36 : decode cX10_stuck 36 = .ok (.invokevirtual 206, 3) := dcw_182 (by decide +kernel)
theorem dX10_stuck_39 : decode cX10_stuck 39 = .ok (.bipush (-2), 2) := dcb_16 (n := 254) (by decide +kernel)
theorem dX10_stuck_41 : decode cX10_stuck 41 = .ok (.if_icmp .ne 9, 3) := dcs_160 (n := 9) (by decide +kernel)
theorem dX10_stuck_44 : decode cX10_stuck 44 = .ok (.iload_n 1, 1) := dc1_27 (by decide +kernel)
theorem dX10_stuck_45 : decode cX10_stuck 45 = .ok (.iconst 1, 1) := dc1_4 (by decide +kernel)
theorem dX10_stuck_46 : decode cX10_stuck 46 = .ok (.iload_n 2, 1) := dc1_28 (by decide +kernel)
theorem dX10_stuck_47 : decode cX10_stuck 47 = .ok (.ishl, 1) := dc1_120 (by decide +kernel)
theorem dX10_stuck_48 : decode cX10_stuck 48 = .ok (.ior, 1) := dc1_128 (by decide +kernel)
theorem dX10_stuck_49 : decode cX10_stuck 49 = .ok (.istore_n 1, 1) := dc1_60 (by decide +kernel)
theorem dX10_stuck_50 : decode cX10_stuck 50 = .ok (.iinc 2 1, 3) := dc_iinc (m := 1) (by decide +kernel)
theorem dX10_stuck_53 : decode cX10_stuck 53 = .ok (.goto (-49), 3) := dcs_167 (n := 65487) (by decide +kernel)
theorem dX10_stuck_56 : decode cX10_stuck 56 = .ok (.iload_n 1, 1) := dc1_27 (by decide +kernel)
theorem dX10_stuck_57 : decode cX10_stuck 57 = .ok (.ireturn, 1) := dc1_172 (by decide +kernel)
theorem ggX10_chosen_X2_bestGuess : GoodIn wsX10_chosen wsX2_bestGuess := gi_sub (fun w h => List.mem_cons_of_mem _ (List.mem_append_left _ (List.mem_append_left _ (List.mem_append_left _ (List.mem_append_left _ (List.mem_append_left _ (List.mem_append_left _ (List.mem_append_right _ (List.mem_append_left _ h))))))))) gd_wsX2_bestGuess
set_option maxRecDepth 20000 in
theorem gX10_chosen_X2_bestGuess_n206 : GoodIn wsX10_chosen (wsX2_bestGuess) := ggX10_chosen_X2_bestGuess
theorem ggX10_chosen_X2_oddsOf : GoodIn wsX10_chosen wsX2_oddsOf := gi_sub (fun w h => List.mem_cons_of_mem _ (List.mem_append_left _ (List.mem_append_left _ (List.mem_append_left _ (List.mem_append_left _ (List.mem_append_left _ (List.mem_append_left _ (List.mem_append_right _ (List.mem_append_right _ h))))))))) gd_wsX2_oddsOf
set_option maxRecDepth 20000 in
theorem gX10_chosen_X2_oddsOf_n200 : GoodIn wsX10_chosen (wsX2_oddsOf) := ggX10_chosen_X2_oddsOf
theorem dX10_chosen_0 : decode cX10_chosen 0 = .ok (.bipush (-2), 2) := dcb_16 (n := 254) (by decide +kernel)
theorem dX10_chosen_2 : decode cX10_chosen 2 = .ok (.istore_n 1, 1) := dc1_60 (by decide +kernel)
theorem dX10_chosen_3 : decode cX10_chosen 3 = .ok (.iconst 0, 1) := dc1_3 (by decide +kernel)
theorem dX10_chosen_4 : decode cX10_chosen 4 = .ok (.istore_n 2, 1) := dc1_61 (by decide +kernel)
theorem dX10_chosen_5 : decode cX10_chosen 5 = .ok (.iconst 0, 1) := dc1_3 (by decide +kernel)
theorem dX10_chosen_6 : decode cX10_chosen 6 = .ok (.istore_n 3, 1) := dc1_62 (by decide +kernel)
theorem dX10_chosen_7 : decode cX10_chosen 7 = .ok (.iload_n 3, 1) := dc1_29 (by decide +kernel)
theorem dX10_chosen_8 : decode cX10_chosen 8 = .ok (.aload_n 0, 1) := dc1_42 (by decide +kernel)
theorem dX10_chosen_9 : decode cX10_chosen 9 = .ok (.getfield 19, 3) := dcw_180 (by decide +kernel)
theorem dX10_chosen_12 : decode cX10_chosen 12 = .ok (.getfield 235, 3) := dcw_180 (by decide +kernel)
theorem dX10_chosen_15 : decode cX10_chosen 15 = .ok (.if_icmp .ge 77, 3) := dcs_162 (n := 77) (by decide +kernel)
theorem dX10_chosen_18 : decode cX10_chosen 18 = .ok (.aload_n 0, 1) := dc1_42 (by decide +kernel)
theorem dX10_chosen_19 : decode cX10_chosen 19 = .ok (.getfield 35, 3) := dcw_180 (by decide +kernel)
theorem dX10_chosen_22 : decode cX10_chosen 22 = .ok (.getfield 147, 3) := dcw_180 (by decide +kernel)
theorem dX10_chosen_25 : decode cX10_chosen 25 = .ok (.iload_n 3, 1) := dc1_29 (by decide +kernel)
theorem dX10_chosen_26 : decode cX10_chosen 26 = .ok (.iaload, 1) := dc1_46 (by decide +kernel)
theorem dX10_chosen_27 : decode cX10_chosen 27 = .ok (.ifCond .ne 18, 3) := dcs_154 (n := 18) (by decide +kernel)
theorem dX10_chosen_30 : decode cX10_chosen 30 = .ok (.aload_n 0, 1) := dc1_42 (by decide +kernel)
theorem dX10_chosen_31 : decode cX10_chosen 31 = .ok (.getfield 63, 3) := dcw_180 (by decide +kernel)
theorem dX10_chosen_34 : decode cX10_chosen 34 = .ok (.aload_n 0, 1) := dc1_42 (by decide +kernel)
theorem dX10_chosen_35 : decode cX10_chosen 35 = .ok (.getfield 35, 3) := dcw_180 (by decide +kernel)
theorem dX10_chosen_38 : decode cX10_chosen 38 = .ok (.iload_n 3, 1) := dc1_29 (by decide +kernel)
theorem dX10_chosen_39 : decode cX10_chosen 39 = .ok (.invokevirtual 206, 3) := dcw_182 (by decide +kernel)
theorem dX10_chosen_42 : decode cX10_chosen 42 = .ok (.goto 5, 3) := dcs_167 (n := 5) (by decide +kernel)
theorem dX10_chosen_45 : decode cX10_chosen 45 = .ok (.bipush (-2), 2) := dcb_16 (n := 254) (by decide +kernel)
theorem dX10_chosen_47 : decode cX10_chosen 47 = .ok (.istore 4, 2) := dcu_54 (by decide +kernel)
theorem dX10_chosen_49 : decode cX10_chosen 49 = .ok (.iload 4, 2) := dcu_21 (by decide +kernel)
theorem dX10_chosen_51 : decode cX10_chosen 51 = .ok (.bipush (-2), 2) := dcb_16 (n := 254) (by decide +kernel)
theorem dX10_chosen_53 : decode cX10_chosen 53 = .ok (.if_icmp .ne 7, 3) := dcs_160 (n := 7) (by decide +kernel)
theorem dX10_chosen_56 : decode cX10_chosen 56 = .ok (.iconst 0, 1) := dc1_3 (by decide +kernel)
theorem dX10_chosen_57 : decode cX10_chosen 57 = .ok (.goto 16, 3) := dcs_167 (n := 16) (by decide +kernel)
theorem dX10_chosen_60 : decode cX10_chosen 60 = .ok (.aload_n 0, 1) := dc1_42 (by decide +kernel)
theorem dX10_chosen_61 : decode cX10_chosen 61 = .ok (.getfield 63, 3) := dcw_180 (by decide +kernel)
theorem dX10_chosen_64 : decode cX10_chosen 64 = .ok (.aload_n 0, 1) := dc1_42 (by decide +kernel)
theorem dX10_chosen_65 : decode cX10_chosen 65 = .ok (.getfield 35, 3) := dcw_180 (by decide +kernel)
theorem dX10_chosen_68 : decode cX10_chosen 68 = .ok (.iload 4, 2) := dcu_21 (by decide +kernel)
theorem dX10_chosen_70 : decode cX10_chosen 70 = .ok (.invokevirtual 200, 3) := dcw_182 (by decide +kernel)
theorem dX10_chosen_73 : decode cX10_chosen 73 = .ok (.istore 5, 2) := dcu_54 (by decide +kernel)
theorem dX10_chosen_75 : decode cX10_chosen 75 = .ok (.iload 5, 2) := dcu_21 (by decide +kernel)
theorem dX10_chosen_77 : decode cX10_chosen 77 = .ok (.iload_n 2, 1) := dc1_28 (by decide +kernel)
theorem dX10_chosen_78 : decode cX10_chosen 78 = .ok (.if_icmp .le 8, 3) := dcs_164 (n := 8) (by decide +kernel)
theorem dX10_chosen_81 : decode cX10_chosen 81 = .ok (.iload 5, 2) := dcu_21 (by decide +kernel)
theorem dX10_chosen_83 : decode cX10_chosen 83 = .ok (.istore_n 2, 1) := dc1_61 (by decide +kernel)
theorem dX10_chosen_84 : decode cX10_chosen 84 = .ok (.iload_n 3, 1) := dc1_29 (by decide +kernel)
theorem dX10_chosen_85 : decode cX10_chosen 85 = .ok (.istore_n 1, 1) := dc1_60 (by decide +kernel)
theorem dX10_chosen_86 : decode cX10_chosen 86 = .ok (.iinc 3 1, 3) := dc_iinc (m := 1) (by decide +kernel)
theorem dX10_chosen_89 : decode cX10_chosen 89 = .ok (.goto (-82), 3) := dcs_167 (n := 65454) (by decide +kernel)
theorem dX10_chosen_92 : decode cX10_chosen 92 = .ok (.iload_n 1, 1) := dc1_27 (by decide +kernel)
theorem dX10_chosen_93 : decode cX10_chosen 93 = .ok (.ireturn, 1) := dc1_172 (by decide +kernel)
theorem ggX10_allGo_X6_copyFrom : GoodIn wsX10_allGo wsX6_copyFrom := gi_sub (fun w h => List.mem_cons_of_mem _ (List.mem_append_left _ (List.mem_append_left _ (List.mem_append_left _ (List.mem_append_left _ (List.mem_append_left _ (List.mem_append_left _ (List.mem_append_right _ (List.mem_append_left _ h))))))))) gd_wsX6_copyFrom
set_option maxRecDepth 20000 in
theorem gX10_allGo_X6_copyFrom_n227 : GoodIn wsX10_allGo (wsX6_copyFrom) := ggX10_allGo_X6_copyFrom
theorem ggX10_allGo_X0_isDaring : GoodIn wsX10_allGo wsX0_isDaring := gi_sub (fun w h => List.mem_cons_of_mem _ (List.mem_append_left _ (List.mem_append_left _ (List.mem_append_left _ (List.mem_append_left _ (List.mem_append_left _ (List.mem_append_left _ (List.mem_append_right _ (List.mem_append_right _ (List.mem_append_left _ h)))))))))) gd_wsX0_isDaring
set_option maxRecDepth 20000 in
theorem gX10_allGo_X0_isDaring_n156 : GoodIn wsX10_allGo (wsX0_isDaring) := ggX10_allGo_X0_isDaring
theorem ggX10_allGo_X2_bestGuess : GoodIn wsX10_allGo wsX2_bestGuess := gi_sub (fun w h => List.mem_cons_of_mem _ (List.mem_append_left _ (List.mem_append_left _ (List.mem_append_left _ (List.mem_append_left _ (List.mem_append_left _ (List.mem_append_left _ (List.mem_append_right _ (List.mem_append_right _ (List.mem_append_right _ (List.mem_append_left _ h))))))))))) gd_wsX2_bestGuess
set_option maxRecDepth 20000 in
theorem gX10_allGo_X2_bestGuess_n206 : GoodIn wsX10_allGo (wsX2_bestGuess) := ggX10_allGo_X2_bestGuess
theorem ggX10_allGo_X0_sendBy : GoodIn wsX10_allGo wsX0_sendBy := gi_sub (fun w h => List.mem_cons_of_mem _ (List.mem_append_left _ (List.mem_append_left _ (List.mem_append_left _ (List.mem_append_left _ (List.mem_append_left _ (List.mem_append_left _ (List.mem_append_right _ (List.mem_append_right _ (List.mem_append_right _ (List.mem_append_right _ (List.mem_append_left _ h)))))))))))) gd_wsX0_sendBy
set_option maxRecDepth 20000 in
theorem gX10_allGo_X0_sendBy_n177 : GoodIn wsX10_allGo (wsX0_sendBy) := ggX10_allGo_X0_sendBy
theorem ggX10_allGo_X10_partiesThatAre : GoodIn wsX10_allGo wsX10_partiesThatAre := gi_sub (fun w h => List.mem_cons_of_mem _ (List.mem_append_left _ (List.mem_append_left _ (List.mem_append_left _ (List.mem_append_left _ (List.mem_append_left _ (List.mem_append_left _ (List.mem_append_right _ (List.mem_append_right _ (List.mem_append_right _ (List.mem_append_right _ (List.mem_append_right _ (List.mem_append_left _ h))))))))))))) gd_wsX10_partiesThatAre
set_option maxRecDepth 20000 in
theorem gX10_allGo_X10_partiesThatAre : GoodIn wsX10_allGo (wsV RX10 244 RX10 yX10_partiesThatAre wsX10_partiesThatAre) := goodIn_app (goodIn_r _ [25, 26, 27, 18] (by decide +kernel) (by decide +kernel)) ggX10_allGo_X10_partiesThatAre
theorem ggX10_allGo_J6_bitCount_0f7a4 : GoodIn wsX10_allGo wsJ6_bitCount_0f7a4 := gi_sub (fun w h => List.mem_cons_of_mem _ (List.mem_append_left _ (List.mem_append_left _ (List.mem_append_left _ (List.mem_append_left _ (List.mem_append_left _ (List.mem_append_left _ (List.mem_append_right _ (List.mem_append_right _ (List.mem_append_right _ (List.mem_append_right _ (List.mem_append_right _ (List.mem_append_right _ h))))))))))))) gd_wsJ6_bitCount_0f7a4
set_option maxRecDepth 20000 in
theorem gX10_allGo_J6_bitCount_0f7a4 : GoodIn wsX10_allGo (va_wsS RX10 247 yJ6_bitCount_0f7a4 wsJ6_bitCount_0f7a4) := goodIn_app (goodIn_of _ (by decide +kernel)) ggX10_allGo_J6_bitCount_0f7a4
theorem dX10_allGo_0 : decode cX10_allGo 0 = .ok (.iload_n 1, 1) := dc1_27 (by decide +kernel)
theorem dX10_allGo_1 : decode cX10_allGo 1 = .ok (.ifCond .lt 8, 3) := dcs_155 (n := 8) (by decide +kernel)
theorem dX10_allGo_4 : decode cX10_allGo 4 = .ok (.iload_n 1, 1) := dc1_27 (by decide +kernel)
theorem dX10_allGo_5 : decode cX10_allGo 5 = .ok (.iconst 2, 1) := dc1_5 (by decide +kernel)
theorem dX10_allGo_6 : decode cX10_allGo 6 = .ok (.if_icmp .le 5, 3) := dcs_164 (n := 5) (by decide +kernel)
theorem dX10_allGo_9 : decode cX10_allGo 9 = .ok (.iconst (-1), 1) := dc1_2 (by decide +kernel)
theorem dX10_allGo_10 : decode cX10_allGo 10 = .ok (.ireturn, 1) := dc1_172 (by decide +kernel)
theorem dX10_allGo_11 : decode cX10_allGo 11 = .ok (.aload_n 0, 1) := dc1_42 (by decide +kernel)
theorem dX10_allGo_12 : decode cX10_allGo 12 = .ok (.getfield 39, 3) := dcw_180 (by decide +kernel)
theorem dX10_allGo_15 : decode cX10_allGo 15 = .ok (.aload_n 0, 1) := dc1_42 (by decide +kernel)
theorem dX10_allGo_16 : decode cX10_allGo 16 = .ok (.getfield 35, 3) := dcw_180 (by decide +kernel)
theorem dX10_allGo_19 : decode cX10_allGo 19 = .ok (.invokevirtual 227, 3) := dcw_182 (by decide +kernel)
theorem dX10_allGo_22 : decode cX10_allGo 22 = .ok (.iconst 0, 1) := dc1_3 (by decide +kernel)
theorem dX10_allGo_23 : decode cX10_allGo 23 = .ok (.istore_n 2, 1) := dc1_61 (by decide +kernel)
theorem dX10_allGo_24 : decode cX10_allGo 24 = .ok (.iload_n 2, 1) := dc1_28 (by decide +kernel)
theorem dX10_allGo_25 : decode cX10_allGo 25 = .ok (.aload_n 0, 1) := dc1_42 (by decide +kernel)
theorem dX10_allGo_26 : decode cX10_allGo 26 = .ok (.getfield 19, 3) := dcw_180 (by decide +kernel)
theorem dX10_allGo_29 : decode cX10_allGo 29 = .ok (.getfield 235, 3) := dcw_180 (by decide +kernel)
theorem dX10_allGo_32 : decode cX10_allGo 32 = .ok (.if_icmp .ge 69, 3) := dcs_162 (n := 69) (by decide +kernel)
theorem dX10_allGo_35 : decode cX10_allGo 35 = .ok (.aload_n 0, 1) := dc1_42 (by decide +kernel)
theorem dX10_allGo_36 : decode cX10_allGo 36 = .ok (.getfield 39, 3) := dcw_180 (by decide +kernel)
theorem dX10_allGo_39 : decode cX10_allGo 39 = .ok (.getfield 147, 3) := dcw_180 (by decide +kernel)
theorem dX10_allGo_42 : decode cX10_allGo 42 = .ok (.iload_n 2, 1) := dc1_28 (by decide +kernel)
theorem dX10_allGo_43 : decode cX10_allGo 43 = .ok (.iaload, 1) := dc1_46 (by decide +kernel)
theorem dX10_allGo_44 : decode cX10_allGo 44 = .ok (.ifCond .ne 51, 3) := dcs_154 (n := 51) (by decide +kernel)
theorem dX10_allGo_47 : decode cX10_allGo 47 = .ok (.aload_n 0, 1) := dc1_42 (by decide +kernel)
theorem dX10_allGo_48 : decode cX10_allGo 48 = .ok (.getfield 54, 3) := dcw_180 (by decide +kernel)
theorem dX10_allGo_51 : decode cX10_allGo 51 = .ok (.aload_n 0, 1) := dc1_42 (by decide +kernel)
theorem dX10_allGo_52 : decode cX10_allGo 52 = .ok (.getfield 39, 3) := dcw_180 (by decide +kernel)
theorem dX10_allGo_55 : decode cX10_allGo 55 = .ok (.iload_n 2, 1) := dc1_28 (by decide +kernel)
theorem dX10_allGo_56 : decode cX10_allGo 56 = .ok (.invokevirtual 156, 3) := dcw_182 (by decide +kernel)
theorem dX10_allGo_59 : decode cX10_allGo 59 = .ok (.ifCond .eq 36, 3) := dcs_153 (n := 36) (by decide +kernel)
theorem dX10_allGo_62 : decode cX10_allGo 62 = .ok (.aload_n 0, 1) := dc1_42 (by decide +kernel)
theorem dX10_allGo_63 : decode cX10_allGo 63 = .ok (.getfield 63, 3) := dcw_180 (by decide +kernel)
theorem dX10_allGo_66 : decode cX10_allGo 66 = .ok (.aload_n 0, 1) := dc1_42 (by decide +kernel)
theorem dX10_allGo_67 : decode cX10_allGo 67 = .ok (.getfield 39, 3) := dcw_180 (by decide +kernel)
theorem dX10_allGo_70 : decode cX10_allGo 70 = .ok (.iload_n 2, 1) := dc1_28 (by decide +kernel)
theorem dX10_allGo_71 : decode cX10_allGo 71 = .ok (.invokevirtual 206, 3) := dcw_182 (by decide +kernel)
theorem dX10_allGo_74 : decode cX10_allGo 74 = .ok (.istore_n 3, 1) := dc1_62 (by decide +kernel)
theorem dX10_allGo_75 : decode cX10_allGo 75 = .ok (.iload_n 3, 1) := dc1_29 (by decide +kernel)
theorem dX10_allGo_76 : decode cX10_allGo 76 = .ok (.bipush (-2), 2) := dcb_16 (n := 254) (by decide +kernel)
theorem dX10_allGo_78 : decode cX10_allGo 78 = .ok (.if_icmp .eq 17, 3) := dcs_159 (n := 17) (by decide +kernel)
theorem dX10_allGo_81 : decode cX10_allGo 81 = .ok (.aload_n 0, 1) := dc1_42 (by decide +kernel)
theorem dX10_allGo_82 : decode cX10_allGo 82 = .ok (.getfield 54, 3) := dcw_180 (by decide +kernel)
theorem dX10_allGo_85 : decode cX10_allGo 85 = .ok (.aload_n 0, 1) := dc1_42 (by decide +kernel)
theorem dX10_allGo_86 : decode cX10_allGo 86 = .ok (.getfield 39, 3) := dcw_180 (by decide +kernel)
theorem dX10_allGo_89 : decode cX10_allGo 89 = .ok (.iload_n 2, 1) := dc1_28 (by decide +kernel)
theorem dX10_allGo_90 : decode cX10_allGo 90 = .ok (.iload_n 3, 1) := dc1_29 (by decide +kernel)
theorem dX10_allGo_91 : decode cX10_allGo 91 = .ok (.invokevirtual 177, 3) := dcw_182 (by decide +kernel)
theorem dX10_allGo_94 : decode cX10_allGo 94 = .ok (.pop, 1) := dc1_87 (by decide +kernel)
theorem dX10_allGo_95 : decode cX10_allGo 95 = .ok (.iinc 2 1, 3) := dc_iinc (m := 1) (by decide +kernel)
theorem dX10_allGo_98 : decode cX10_allGo 98 = .ok (.goto (-74), 3) := dcs_167 (n := 65462) (by decide +kernel)
theorem dX10_allGo_101 : decode cX10_allGo 101 = .ok (.iload_n 1, 1) := dc1_27 (by decide +kernel)
theorem dX10_allGo_102 : decode cX10_allGo 102 = .ok (.iconst 2, 1) := dc1_5 (by decide +kernel)
theorem dX10_allGo_103 : decode cX10_allGo 103 = .ok (.if_icmp .ne 19, 3) := dcs_160 (n := 19) (by decide +kernel)
theorem dX10_allGo_106 : decode cX10_allGo 106 = .ok (.aload_n 0, 1) := dc1_42 (by decide +kernel)
theorem dX10_allGo_107 : decode cX10_allGo 107 = .ok (.getfield 39, 3) := dcw_180 (by decide +kernel)
theorem dX10_allGo_110 : decode cX10_allGo 110 = .ok (.getfield 241, 3) := dcw_180 (by decide +kernel)
theorem dX10_allGo_113 : decode cX10_allGo 113 = .ok (.aload_n 0, 1) := dc1_42 (by decide +kernel)
theorem dX10_allGo_114 : decode cX10_allGo 114 = .ok (.getfield 35, 3) := dcw_180 (by decide +kernel)
theorem dX10_allGo_117 : decode cX10_allGo 117 = .ok (.getfield 241, 3) := dcw_180 (by decide +kernel)
theorem dX10_allGo_120 : decode cX10_allGo 120 = .ok (.isub, 1) := dc1_100 (by decide +kernel)
theorem dX10_allGo_121 : decode cX10_allGo 121 = .ok (.ireturn, 1) := dc1_172 (by decide +kernel)
theorem dX10_allGo_122 : decode cX10_allGo 122 = .ok (.aload_n 0, 1) := dc1_42 (by decide +kernel)
theorem dX10_allGo_123 : decode cX10_allGo 123 = .ok (.aload_n 0, 1) := dc1_42 (by decide +kernel)
theorem dX10_allGo_124 : decode cX10_allGo 124 = .ok (.getfield 39, 3) := dcw_180 (by decide +kernel)
theorem dX10_allGo_127 : decode cX10_allGo 127 = .ok (.iload_n 1, 1) := dc1_27 (by decide +kernel)
theorem dX10_allGo_128 : decode cX10_allGo 128 = .ok (.ifCond .ne 7, 3) := dcs_154 (n := 7) (by decide +kernel)
theorem dX10_allGo_131 : decode cX10_allGo 131 = .ok (.iconst 2, 1) := dc1_5 (by decide +kernel)
theorem dX10_allGo_132 : decode cX10_allGo 132 = .ok (.goto 4, 3) := dcs_167 (n := 4) (by decide +kernel)
theorem dX10_allGo_135 : decode cX10_allGo 135 = .ok (.iconst 1, 1) := dc1_4 (by decide +kernel)
theorem dX10_allGo_136 : decode cX10_allGo 136 = .ok (.invokevirtual 244, 3) := dcw_182 (by decide +kernel)
theorem dX10_allGo_139 : decode cX10_allGo 139 = .ok (.invokestatic 247, 3) := dcw_184 (by decide +kernel)
theorem dX10_allGo_142 : decode cX10_allGo 142 = .ok (.ireturn, 1) := dc1_172 (by decide +kernel)
theorem LX10_likeliest_35 : Cond.fieldLink RX10 35 "GuessFerry" "now" "LGuessFerry$Standing;" ∈ wsX10_likeliest := by decide +kernel
theorem LX10_likeliest_63 : Cond.fieldLink RX10 63 "GuessFerry" "outlook" "LGuessFerry$Outlook;" ∈ wsX10_likeliest := by decide +kernel
theorem LX10_likeliest_E_X2_bestGuess : Cond.selects RX2 yX2_bestGuess yX2_bestGuess ∈ wsX10_likeliest := by decide +kernel
theorem LX10_likeliest_I_X2 : Cond.initialized RX2 ∈ wsX10_likeliest := by decide +kernel
theorem LX10_likeliest_N_X2_bestGuess : Cond.instanceMethod yX2_bestGuess ∈ wsX10_likeliest := by decide +kernel
theorem inX10_likeliest_X10 : ∀ w ∈ u_ws RX10 TX10 9, w ∈ wsX10_likeliest := by decide +kernel
set_option maxHeartbeats 4000000 in
set_option maxRecDepth 100000 in
theorem bkX10_likeliest {l : Launch} {dC : Nat → ClassId} {dI : Nat → Nat → Nat} {cB cI cJ cZ cS : ClassId} {a b b2 c0 : Nat → Nat} {rg sl : Nat → Option Nat} {as : List Value} {r : Int32} {s' : XS} (s : XS) (hB : kX10_likeliest s = some (r, s')) : BlkI l yX10_likeliest wsX10_likeliest ({ frames := 6, cells := 0, slots := 0, locals := 152 }) cX10_likeliest 1 (some .int) (dC, dI) (tysA cB cI cJ cZ cS) as 0 (wX cB cI cJ cZ cS a b b2 c0 rg sl s) [(0, .ref (c0 0))] [] (fun x u => x = r ∧ u = (wX cB cI cJ cZ cS a b b2 c0 rg sl s')) := by
  intro p e s0 m below meth c A E H locs ls hP hD hS hl
  obtain ⟨C, hr, hlocks, hA, hK, hN⟩ := id E
  obtain ⟨hx, hb, hml, hown, hts⟩ := id C
  unfold kX10_likeliest at hB
  refine lv_aload_n hx hb dX10_likeliest_0 rfl (lv_at hl 0 rfl) ?_
  refine q_get (v := .ref (a 36)) C inX10_likeliest_X10 hK hP 0 rfl rfl 7 (by decide) rfl LX10_likeliest_63 rfl dX10_likeliest_1 ?_
  refine lv_aload_n hx hb dX10_likeliest_4 rfl (lv_at hl 0 rfl) ?_
  refine q_get (v := .ref (b 0)) C inX10_likeliest_X10 hK hP 0 rfl rfl 3 (by decide) rfl LX10_likeliest_35 rfl dX10_likeliest_5 ?_
  refine lv_iconst (v := (-1)) hx hb dX10_likeliest_8 (by decide) ?_
  obtain ⟨q_, s1, hc, hB⟩ := bindI_inv hB
  refine q_goi (wr := ((wG cZ cS a b b2 c0 rg sl s.g) ++ (wD cI b2 s.t))) (va_runVN (As := [.ref (b 0), .int (-1)]) (rest := []) C (ckX2_bestGuess hc _) ⟨va_cnB 2 hts gX10_likeliest_X2_bestGuess_n206 rfl rfl rfl (hN _ nwM_X10_206 rfl) (hts _ LX10_likeliest_I_X2) (by decide +kernel) ⟨Nat.le_of_ble_eq_true rfl, Nat.le_of_ble_eq_true rfl⟩, hts _ LX10_likeliest_N_X2_bestGuess, hts _ LX10_likeliest_E_X2_bestGuess⟩ (q_preV hK hP (ci := 2) (q0 := 53) rfl rfl rfl (q_pre hN hK hP hD [11, 12, 13, 14, 15, 16, 17, 18, 19, 20, 21, 22, 23, 24, 25, 26, 27, 28, 29, 30, 31, 32, 33, 34, 35, 36, 37, 38, 39, 40, 41, 42, 43, 44, 45, 46, 47, 48, 49, 50, 51, 52, 53, 54, 55, 56, 57, 58, 59, 60, 61, 62, 63] rfl (by decide))) rfl rfl hl.1 rfl (lv_room (Nat.le_of_ble_eq_true rfl)) dX10_likeliest_9 ⟨Nat.le_of_ble_eq_true rfl, Nat.le_of_ble_eq_true rfl⟩) hP hD hS hA [11, 12, 13, 14, 15, 16, 17, 18, 19, 20, 21, 22, 23, 24, 25, 26, 27, 28, 29, 30, 31, 32, 33, 34, 35, 36, 37, 38, 39, 40, 41, 42, 43, 44, 45, 46, 47, 48, 49, 50, 51, 52, 53, 54, 55, 56, 57, 58, 59, 60, 61, 62, 63] [0, 1, 2, 3, 4, 5, 6, 7, 8, 9, 10] rfl rfl (by decide) (by decide) (fun r2 w1 H locs hw hP hD hS => ?_)
  obtain ⟨hq_, hw⟩ := hw; subst hw; subst hq_
  obtain ⟨s3, hs4, hB⟩ := letS_inv hB
  have hP : va_P (dC, dI) vwCl (wX cB cI cJ cZ cS a b b2 c0 rg sl s3) H := by subst hs4; exact hP
  have hD : va_D A (wX cB cI cJ cZ cS a b b2 c0 rg sl s3) := by subst hs4; exact hD
  exact q_iret C hr hlocks hK hP hD hS (Nat.le_of_ble_eq_true rfl) (Nat.le_of_ble_eq_true rfl) dX10_likeliest_12 (by cases hB; exact ⟨rfl, rfl⟩)
theorem ckX10_likeliest {l : Launch} {dC : Nat → ClassId} {dI : Nat → Nat → Nat} {cB cI cJ cZ cS : ClassId} {a b b2 c0 : Nat → Nat} {rg sl : Nat → Option Nat} {r : Int32} {s' : XS} {s : XS} (hB : kX10_likeliest s = some (r, s')) : CI l yX10_likeliest wsX10_likeliest ({ frames := 6, cells := 0, slots := 0, locals := 152 }) (dC, dI) (tysA cB cI cJ cZ cS) (wX cB cI cJ cZ cS a b b2 c0 rg sl s) [.ref (c0 0)] (fun x u => x = r ∧ u = (wX cB cI cJ cZ cS a b b2 c0 rg sl s')) :=
  CI_of (cc := cX10_likeliest) (maxL := 1) (ret := (some .int)) (by decide) rfl (Nat.le_of_ble_eq_true rfl) (bkX10_likeliest _ hB)
theorem LX10_safest_19 : Cond.fieldLink RX10 19 "GuessFerry" "sound" "LGuessFerry$Sound;" ∈ wsX10_safest := by decide +kernel
theorem LX10_safest_35 : Cond.fieldLink RX10 35 "GuessFerry" "now" "LGuessFerry$Standing;" ∈ wsX10_safest := by decide +kernel
theorem LX10_safest_63 : Cond.fieldLink RX10 63 "GuessFerry" "outlook" "LGuessFerry$Outlook;" ∈ wsX10_safest := by decide +kernel
theorem LX10_safest_E_X2_bestGuess : Cond.selects RX2 yX2_bestGuess yX2_bestGuess ∈ wsX10_safest := by decide +kernel
theorem LX10_safest_E_X5_hasParty : Cond.selects RX5 yX5_hasParty yX5_hasParty ∈ wsX10_safest := by decide +kernel
theorem LX10_safest_I_X2 : Cond.initialized RX2 ∈ wsX10_safest := by decide +kernel
theorem LX10_safest_I_X5 : Cond.initialized RX5 ∈ wsX10_safest := by decide +kernel
theorem LX10_safest_N_X2_bestGuess : Cond.instanceMethod yX2_bestGuess ∈ wsX10_safest := by decide +kernel
theorem LX10_safest_N_X5_hasParty : Cond.instanceMethod yX5_hasParty ∈ wsX10_safest := by decide +kernel
theorem inX10_safest_X10 : ∀ w ∈ u_ws RX10 TX10 9, w ∈ wsX10_safest := by decide +kernel
set_option maxHeartbeats 4000000 in
set_option maxRecDepth 100000 in
theorem bkX10_safest {l : Launch} {dC : Nat → ClassId} {dI : Nat → Nat → Nat} {cB cI cJ cZ cS : ClassId} {a b b2 c0 : Nat → Nat} {rg sl : Nat → Option Nat} {as : List Value} {r : Int32} {s' : XS} (s : XS) (x1 : Int32) (hB : kX10_safest s x1 = some (r, s')) : BlkI l yX10_safest wsX10_safest ({ frames := 6, cells := 0, slots := 0, locals := 152 }) cX10_safest 2 (some .int) (dC, dI) (tysA cB cI cJ cZ cS) as 0 (wX cB cI cJ cZ cS a b b2 c0 rg sl s) [(0, .ref (c0 0)), (1, .int x1)] [] (fun x u => x = r ∧ u = (wX cB cI cJ cZ cS a b b2 c0 rg sl s')) := by
  intro p e s0 m below meth c A E H locs ls hP hD hS hl
  obtain ⟨C, hr, hlocks, hA, hK, hN⟩ := id E
  obtain ⟨hx, hb, hml, hown, hts⟩ := id C
  unfold kX10_safest at hB
  refine lv_aload_n hx hb dX10_safest_0 rfl (lv_at hl 0 rfl) ?_
  refine q_get (v := .ref (a 2)) C inX10_safest_X10 hK hP 0 rfl rfl 1 (by decide) rfl LX10_safest_19 rfl dX10_safest_1 ?_
  refine lv_iload_n hx hb dX10_safest_4 rfl (lv_at hl 1 rfl) ?_
  obtain ⟨q_, s1, hc, hB⟩ := bindI_inv hB
  refine q_goi (wr := ((wG cZ cS a b b2 c0 rg sl s.g) ++ (wD cI b2 s.t) ++ (wD cI b s.n))) (va_runVN (As := [.int x1]) (rest := []) C (ckX5_hasParty hc _) ⟨va_cnB 1 hts gX10_safest_X5_hasParty_n138 rfl rfl rfl (hN _ nwM_X10_138 rfl) (hts _ LX10_safest_I_X5) (by decide +kernel) ⟨Nat.le_of_ble_eq_true rfl, Nat.le_of_ble_eq_true rfl⟩, hts _ LX10_safest_N_X5_hasParty, hts _ LX10_safest_E_X5_hasParty⟩ (q_preV hK hP (ci := 5) (q0 := 19) rfl rfl rfl (q_pre hN hK hP hD [17, 18, 19, 20, 21, 22, 23, 24, 25, 26, 27, 28, 29, 30, 31, 32, 33, 34, 35, 36, 37, 38, 39, 40, 41, 42, 43, 44, 45, 46, 47, 48, 49, 50, 51, 52, 53, 54, 55, 56, 57, 58, 59, 60, 61, 62, 63] rfl (by decide))) rfl rfl hl.1 rfl (lv_room (Nat.le_of_ble_eq_true rfl)) dX10_safest_5 ⟨Nat.le_of_ble_eq_true rfl, Nat.le_of_ble_eq_true rfl⟩) hP hD hS hA [17, 18, 19, 20, 21, 22, 23, 24, 25, 26, 27, 28, 29, 30, 31, 32, 33, 34, 35, 36, 37, 38, 39, 40, 41, 42, 43, 44, 45, 46, 47, 48, 49, 50, 51, 52, 53, 54, 55, 56, 57, 58, 59, 60, 61, 62, 63] [0, 1, 2, 3, 4, 5, 6, 7, 8, 9, 10, 11, 12, 13, 14, 15, 16] rfl rfl (by decide) (by decide) (fun r2 w1 H locs hw hP hD hS => ?_)
  obtain ⟨hq_, hw⟩ := hw; subst hw; subst hq_
  obtain ⟨s3, hs4, hB⟩ := letS_inv hB
  have hP : va_P (dC, dI) vwCl (wX cB cI cJ cZ cS a b b2 c0 rg sl s3) H := by subst hs4; exact hP
  have hD : va_D A (wX cB cI cJ cZ cS a b b2 c0 rg sl s3) := by subst hs4; exact hD
  refine lv_if_eq (tgt := 26) hx hb dX10_safest_8 (by decide) (fun c5 => ?_) (fun c5 => ?_)
  · have hB := if_p hB c5
    refine lv_iconst (v := (-1)) hx hb dX10_safest_26 (by decide) ?_
    exact q_iret C hr hlocks hK hP hD hS (Nat.le_of_ble_eq_true rfl) (Nat.le_of_ble_eq_true rfl) dX10_safest_27 (by cases hB; exact ⟨rfl, rfl⟩)
  · have hB := if_n hB c5
    refine lv_aload_n hx hb dX10_safest_11 rfl (lv_at hl 0 rfl) ?_
    refine q_get (v := .ref (a 36)) C inX10_safest_X10 hK hP 0 rfl rfl 7 (by decide) rfl LX10_safest_63 rfl dX10_safest_12 ?_
    refine lv_aload_n hx hb dX10_safest_15 rfl (lv_at hl 0 rfl) ?_
    refine q_get (v := .ref (b 0)) C inX10_safest_X10 hK hP 0 rfl rfl 3 (by decide) rfl LX10_safest_35 rfl dX10_safest_16 ?_
    refine lv_iload_n hx hb dX10_safest_19 rfl (lv_at hl 1 rfl) ?_
    obtain ⟨q_, s6, hc, hB⟩ := bindI_inv hB
    refine q_goi (wr := ((wG cZ cS a b b2 c0 rg sl s3.g) ++ (wD cI b2 s3.t))) (va_runVN (As := [.ref (b 0), .int x1]) (rest := []) C (ckX2_bestGuess hc _) ⟨va_cnB 2 hts gX10_safest_X2_bestGuess_n206 rfl rfl rfl (hN _ nwM_X10_206 rfl) (hts _ LX10_safest_I_X2) (by decide +kernel) ⟨Nat.le_of_ble_eq_true rfl, Nat.le_of_ble_eq_true rfl⟩, hts _ LX10_safest_N_X2_bestGuess, hts _ LX10_safest_E_X2_bestGuess⟩ (q_preV hK hP (ci := 2) (q0 := 53) rfl rfl rfl (q_pre hN hK hP hD [11, 12, 13, 14, 15, 16, 17, 18, 19, 20, 21, 22, 23, 24, 25, 26, 27, 28, 29, 30, 31, 32, 33, 34, 35, 36, 37, 38, 39, 40, 41, 42, 43, 44, 45, 46, 47, 48, 49, 50, 51, 52, 53, 54, 55, 56, 57, 58, 59, 60, 61, 62, 63] rfl (by decide))) rfl rfl hl.1 rfl (lv_room (Nat.le_of_ble_eq_true rfl)) dX10_safest_20 ⟨Nat.le_of_ble_eq_true rfl, Nat.le_of_ble_eq_true rfl⟩) hP hD hS hA [11, 12, 13, 14, 15, 16, 17, 18, 19, 20, 21, 22, 23, 24, 25, 26, 27, 28, 29, 30, 31, 32, 33, 34, 35, 36, 37, 38, 39, 40, 41, 42, 43, 44, 45, 46, 47, 48, 49, 50, 51, 52, 53, 54, 55, 56, 57, 58, 59, 60, 61, 62, 63] [0, 1, 2, 3, 4, 5, 6, 7, 8, 9, 10] rfl rfl (by decide) (by decide) (fun r7 w1 H locs hw hP hD hS => ?_)
    obtain ⟨hq_, hw⟩ := hw; subst hw; subst hq_
    obtain ⟨s8, hs9, hB⟩ := letS_inv hB
    have hP : va_P (dC, dI) vwCl (wX cB cI cJ cZ cS a b b2 c0 rg sl s8) H := by subst hs9; exact hP
    have hD : va_D A (wX cB cI cJ cZ cS a b b2 c0 rg sl s8) := by subst hs9; exact hD
    refine lv_goto (tgt := 27) hx hb dX10_safest_23 (by decide) ?_
    exact q_iret C hr hlocks hK hP hD hS (Nat.le_of_ble_eq_true rfl) (Nat.le_of_ble_eq_true rfl) dX10_safest_27 (by cases hB; exact ⟨rfl, rfl⟩)
theorem ckX10_safest {l : Launch} {dC : Nat → ClassId} {dI : Nat → Nat → Nat} {cB cI cJ cZ cS : ClassId} {a b b2 c0 : Nat → Nat} {rg sl : Nat → Option Nat} {r : Int32} {s' : XS} {s : XS} {x1 : Int32} (hB : kX10_safest s x1 = some (r, s')) : CI l yX10_safest wsX10_safest ({ frames := 6, cells := 0, slots := 0, locals := 152 }) (dC, dI) (tysA cB cI cJ cZ cS) (wX cB cI cJ cZ cS a b b2 c0 rg sl s) [.ref (c0 0), .int x1] (fun x u => x = r ∧ u = (wX cB cI cJ cZ cS a b b2 c0 rg sl s')) :=
  CI_of (cc := cX10_safest) (maxL := 2) (ret := (some .int)) (by decide) rfl (Nat.le_of_ble_eq_true rfl) (bkX10_safest _ _ hB)
theorem LX10_stuck_19 : Cond.fieldLink RX10 19 "GuessFerry" "sound" "LGuessFerry$Sound;" ∈ wsX10_stuck := by decide +kernel
theorem LX10_stuck_35 : Cond.fieldLink RX10 35 "GuessFerry" "now" "LGuessFerry$Standing;" ∈ wsX10_stuck := by decide +kernel
theorem LX10_stuck_63 : Cond.fieldLink RX10 63 "GuessFerry" "outlook" "LGuessFerry$Outlook;" ∈ wsX10_stuck := by decide +kernel
theorem LX10_stuck_E_X2_bestGuess : Cond.selects RX2 yX2_bestGuess yX2_bestGuess ∈ wsX10_stuck := by decide +kernel
theorem LX10_stuck_I_X2 : Cond.initialized RX2 ∈ wsX10_stuck := by decide +kernel
theorem LX10_stuck_N_X2_bestGuess : Cond.instanceMethod yX2_bestGuess ∈ wsX10_stuck := by decide +kernel
theorem inX10_stuck_X10 : ∀ w ∈ u_ws RX10 TX10 9, w ∈ wsX10_stuck := by decide +kernel
theorem inX10_stuck_X5 : ∀ w ∈ u_ws RX5 TX5 10, w ∈ wsX10_stuck := by decide +kernel
theorem inX10_stuck_X6 : ∀ w ∈ u_ws RX6 TX6 7, w ∈ wsX10_stuck := by decide +kernel
set_option maxHeartbeats 4000000 in
set_option maxRecDepth 100000 in
theorem bkX10_stuck_50 {l : Launch} {dC : Nat → ClassId} {dI : Nat → Nat → Nat} {cB cI cJ cZ cS : ClassId} {a b b2 c0 : Nat → Nat} {rg sl : Nat → Option Nat} {as : List Value} {r : Int32} {s' : XS} {k4 : XS → Int32 → Int32 → Option (Int32 × XS)} (hk4 : ∀ (s : XS) (x1 : Int32) (x2 : Int32), k4 s x1 x2 = some (r, s') → BlkI l yX10_stuck wsX10_stuck ({ frames := 6, cells := 0, slots := 0, locals := 152 }) cX10_stuck 3 (some .int) (dC, dI) (tysA cB cI cJ cZ cS) as 4 (wX cB cI cJ cZ cS a b b2 c0 rg sl s) [(0, .ref (c0 0)), (1, .int x1), (2, .int x2)] [] (fun x u => x = r ∧ u = (wX cB cI cJ cZ cS a b b2 c0 rg sl s'))) (s : XS) (x1 : Int32) (x2 : Int32) (hB : kX10_stuck_50 k4 s x1 x2 = some (r, s')) : BlkI l yX10_stuck wsX10_stuck ({ frames := 6, cells := 0, slots := 0, locals := 152 }) cX10_stuck 3 (some .int) (dC, dI) (tysA cB cI cJ cZ cS) as 50 (wX cB cI cJ cZ cS a b b2 c0 rg sl s) [(0, .ref (c0 0)), (1, .int x1), (2, .int x2)] [] (fun x u => x = r ∧ u = (wX cB cI cJ cZ cS a b b2 c0 rg sl s')) := by
  intro p e s0 m below meth c A E H locs ls hP hD hS hl
  obtain ⟨C, hr, hlocks, hA, hK, hN⟩ := id E
  obtain ⟨hx, hb, hml, hown, hts⟩ := id C
  unfold kX10_stuck_50 at hB
  refine lv_iinc (v := (x2 + 1)) (lv' := [(2, .int (x2 + 1)), (0, .ref (c0 0)), (1, .int x1)]) hx hb dX10_stuck_50 hl (k := 2) rfl (rfl) (by decide) rfl (fun ls hl => ?_)
  refine lv_goto (tgt := 4) hx hb dX10_stuck_53 (by decide) ?_
  exact hk4 _ _ _ hB p e s0 m below meth c A E H locs ls hP hD hS (lv_sub hl [1, 2, 0] rfl)
set_option maxHeartbeats 4000000 in
set_option maxRecDepth 100000 in
theorem bkX10_stuck_4 {l : Launch} {dC : Nat → ClassId} {dI : Nat → Nat → Nat} {cB cI cJ cZ cS : ClassId} {a b b2 c0 : Nat → Nat} {rg sl : Nat → Option Nat} {as : List Value} {r : Int32} {s' : XS} {k4 : XS → Int32 → Int32 → Option (Int32 × XS)} (hk4 : ∀ (s : XS) (x1 : Int32) (x2 : Int32), k4 s x1 x2 = some (r, s') → BlkI l yX10_stuck wsX10_stuck ({ frames := 6, cells := 0, slots := 0, locals := 152 }) cX10_stuck 3 (some .int) (dC, dI) (tysA cB cI cJ cZ cS) as 4 (wX cB cI cJ cZ cS a b b2 c0 rg sl s) [(0, .ref (c0 0)), (1, .int x1), (2, .int x2)] [] (fun x u => x = r ∧ u = (wX cB cI cJ cZ cS a b b2 c0 rg sl s'))) (s : XS) (x1 : Int32) (x2 : Int32) (hB : kX10_stuck_4 k4 s x1 x2 = some (r, s')) : BlkI l yX10_stuck wsX10_stuck ({ frames := 6, cells := 0, slots := 0, locals := 152 }) cX10_stuck 3 (some .int) (dC, dI) (tysA cB cI cJ cZ cS) as 4 (wX cB cI cJ cZ cS a b b2 c0 rg sl s) [(0, .ref (c0 0)), (1, .int x1), (2, .int x2)] [] (fun x u => x = r ∧ u = (wX cB cI cJ cZ cS a b b2 c0 rg sl s')) := by
  intro p e s0 m below meth c A E H locs ls hP hD hS hl
  obtain ⟨C, hr, hlocks, hA, hK, hN⟩ := id E
  obtain ⟨hx, hb, hml, hown, hts⟩ := id C
  unfold kX10_stuck_4 at hB
  refine lv_iload_n hx hb dX10_stuck_4 rfl (lv_at hl 2 rfl) ?_
  refine lv_aload_n hx hb dX10_stuck_5 rfl (lv_at hl 0 rfl) ?_
  refine q_get (v := .ref (a 2)) C inX10_stuck_X10 hK hP 0 rfl rfl 1 (by decide) rfl LX10_stuck_19 rfl dX10_stuck_6 ?_
  refine q_getN (v := .int (s.k.v 2)) C hN inX10_stuck_X5 hK hP 19 rfl rfl 7 (by decide) rfl nwF_X10_235 rfl dX10_stuck_9 ?_
  refine lv_icmp_ge (tgt := 56) hx hb dX10_stuck_12 (by decide) (fun c1 => ?_) (fun c1 => ?_)
  · have hB := if_p hB c1
    refine lv_iload_n hx hb dX10_stuck_56 rfl (lv_at hl 1 rfl) ?_
    exact q_iret C hr hlocks hK hP hD hS (Nat.le_of_ble_eq_true rfl) (Nat.le_of_ble_eq_true rfl) dX10_stuck_57 (by cases hB; exact ⟨rfl, rfl⟩)
  · have hB := if_n hB c1
    refine lv_aload_n hx hb dX10_stuck_15 rfl (lv_at hl 0 rfl) ?_
    refine q_get (v := .ref (b 0)) C inX10_stuck_X10 hK hP 0 rfl rfl 3 (by decide) rfl LX10_stuck_35 rfl dX10_stuck_16 ?_
    refine q_getN (v := .ref (b 4)) C hN inX10_stuck_X6 hK hP 11 rfl rfl 3 (by decide) rfl nwF_X10_147 rfl dX10_stuck_19 ?_
    refine lv_iload_n hx hb dX10_stuck_22 rfl (lv_at hl 2 rfl) ?_
    obtain ⟨g2, hB⟩ := guard_inv hB
    refine q_iald (x := ((s.n.f 3) (Int32.toNatClampNeg x2))) C hK hP 15 1 rfl rfl (vpb_in g2) dX10_stuck_23 rfl ?_
    refine lv_if_ne (tgt := 50) hx hb dX10_stuck_24 (by decide) (fun c3 => ?_) (fun c3 => ?_)
    · have hB := if_n hB c3
      exact bkX10_stuck_50 (hk4) _ _ _ hB p e s0 m below meth c A E H locs ls hP hD hS (lv_sub hl [0, 1, 2] rfl)
    · have hB := if_p hB c3
      refine lv_aload_n hx hb dX10_stuck_27 rfl (lv_at hl 0 rfl) ?_
      refine q_get (v := .ref (a 36)) C inX10_stuck_X10 hK hP 0 rfl rfl 7 (by decide) rfl LX10_stuck_63 rfl dX10_stuck_28 ?_
      refine lv_aload_n hx hb dX10_stuck_31 rfl (lv_at hl 0 rfl) ?_
      refine q_get (v := .ref (b 0)) C inX10_stuck_X10 hK hP 0 rfl rfl 3 (by decide) rfl LX10_stuck_35 rfl dX10_stuck_32 ?_
      refine lv_iload_n hx hb dX10_stuck_35 rfl (lv_at hl 2 rfl) ?_
      obtain ⟨q_, s4, hc, hB⟩ := bindI_inv hB
      refine q_goi (wr := ((wG cZ cS a b b2 c0 rg sl s.g) ++ (wD cI b2 s.t))) (va_runVN (As := [.ref (b 0), .int x2]) (rest := []) C (ckX2_bestGuess hc _) ⟨va_cnB 2 hts gX10_stuck_X2_bestGuess_n206 rfl rfl rfl (hN _ nwM_X10_206 rfl) (hts _ LX10_stuck_I_X2) (by decide +kernel) ⟨Nat.le_of_ble_eq_true rfl, Nat.le_of_ble_eq_true rfl⟩, hts _ LX10_stuck_N_X2_bestGuess, hts _ LX10_stuck_E_X2_bestGuess⟩ (q_preV hK hP (ci := 2) (q0 := 53) rfl rfl rfl (q_pre hN hK hP hD [11, 12, 13, 14, 15, 16, 17, 18, 19, 20, 21, 22, 23, 24, 25, 26, 27, 28, 29, 30, 31, 32, 33, 34, 35, 36, 37, 38, 39, 40, 41, 42, 43, 44, 45, 46, 47, 48, 49, 50, 51, 52, 53, 54, 55, 56, 57, 58, 59, 60, 61, 62, 63] rfl (by decide))) rfl rfl hl.1 rfl (lv_room (Nat.le_of_ble_eq_true rfl)) dX10_stuck_36 ⟨Nat.le_of_ble_eq_true rfl, Nat.le_of_ble_eq_true rfl⟩) hP hD hS hA [11, 12, 13, 14, 15, 16, 17, 18, 19, 20, 21, 22, 23, 24, 25, 26, 27, 28, 29, 30, 31, 32, 33, 34, 35, 36, 37, 38, 39, 40, 41, 42, 43, 44, 45, 46, 47, 48, 49, 50, 51, 52, 53, 54, 55, 56, 57, 58, 59, 60, 61, 62, 63] [0, 1, 2, 3, 4, 5, 6, 7, 8, 9, 10] rfl rfl (by decide) (by decide) (fun r5 w1 H locs hw hP hD hS => ?_)
      obtain ⟨hq_, hw⟩ := hw; subst hw; subst hq_
      obtain ⟨s6, hs7, hB⟩ := letS_inv hB
      have hP : va_P (dC, dI) vwCl (wX cB cI cJ cZ cS a b b2 c0 rg sl s6) H := by subst hs7; exact hP
      have hD : va_D A (wX cB cI cJ cZ cS a b b2 c0 rg sl s6) := by subst hs7; exact hD
      refine lv_bipush (v := (-2)) hx hb dX10_stuck_39 (by decide) ?_
      refine lv_icmp_ne (tgt := 50) hx hb dX10_stuck_41 (by decide) (fun c8 => ?_) (fun c8 => ?_)
      · have hB := if_n hB c8
        exact bkX10_stuck_50 (hk4) _ _ _ hB p e s0 m below meth c A E H locs ls hP hD hS (lv_sub hl [0, 1, 2] rfl)
      · have hB := if_p hB c8
        refine lv_iload_n hx hb dX10_stuck_44 rfl (lv_at hl 1 rfl) ?_
        refine lv_iconst (v := 1) hx hb dX10_stuck_45 (by decide) ?_
        refine lv_iload_n hx hb dX10_stuck_46 rfl (lv_at hl 2 rfl) ?_
        refine lv_ishl hx hb dX10_stuck_47 ?_
        refine lv_ior hx hb dX10_stuck_48 ?_
        refine lv_istore_n (lv' := [(1, .int (x1 ||| (1 <<< (x2 &&& 31)))), (0, .ref (c0 0)), (2, .int x2)]) hx hb dX10_stuck_49 rfl hl (by decide) rfl (fun ls hl => ?_)
        exact bkX10_stuck_50 (hk4) _ _ _ hB p e s0 m below meth c A E H locs ls hP hD hS (lv_sub hl [1, 0, 2] rfl)
theorem bkX10_stuck_4L {l : Launch} {dC : Nat → ClassId} {dI : Nat → Nat → Nat} {cB cI cJ cZ cS : ClassId} {a b b2 c0 : Nat → Nat} {rg sl : Nat → Option Nat} {as : List Value} {r : Int32} {s' : XS} : ∀ (n : Nat) (s : XS) (x1 : Int32) (x2 : Int32), kX10_stuck_4L n s x1 x2 = some (r, s') → BlkI l yX10_stuck wsX10_stuck ({ frames := 6, cells := 0, slots := 0, locals := 152 }) cX10_stuck 3 (some .int) (dC, dI) (tysA cB cI cJ cZ cS) as 4 (wX cB cI cJ cZ cS a b b2 c0 rg sl s) [(0, .ref (c0 0)), (1, .int x1), (2, .int x2)] [] (fun x u => x = r ∧ u = (wX cB cI cJ cZ cS a b b2 c0 rg sl s')) := by
  intro n
  induction n with
  | zero => intro s x1 x2 hB; exact none_ne hB
  | succ n ih => intro s x1 x2 hB; exact bkX10_stuck_4 ih _ _ _ hB
set_option maxHeartbeats 4000000 in
set_option maxRecDepth 100000 in
theorem bkX10_stuck {l : Launch} {dC : Nat → ClassId} {dI : Nat → Nat → Nat} {cB cI cJ cZ cS : ClassId} {a b b2 c0 : Nat → Nat} {rg sl : Nat → Option Nat} {as : List Value} {r : Int32} {s' : XS} (s : XS) (hB : kX10_stuck s = some (r, s')) : BlkI l yX10_stuck wsX10_stuck ({ frames := 6, cells := 0, slots := 0, locals := 152 }) cX10_stuck 3 (some .int) (dC, dI) (tysA cB cI cJ cZ cS) as 0 (wX cB cI cJ cZ cS a b b2 c0 rg sl s) [(0, .ref (c0 0))] [] (fun x u => x = r ∧ u = (wX cB cI cJ cZ cS a b b2 c0 rg sl s')) := by
  intro p e s0 m below meth c A E H locs ls hP hD hS hl
  obtain ⟨C, hr, hlocks, hA, hK, hN⟩ := id E
  obtain ⟨hx, hb, hml, hown, hts⟩ := id C
  unfold kX10_stuck at hB
  refine lv_iconst (v := 0) hx hb dX10_stuck_0 (by decide) ?_
  refine lv_istore_n (lv' := [(1, .int 0), (0, .ref (c0 0))]) hx hb dX10_stuck_1 rfl hl (by decide) rfl (fun ls hl => ?_)
  refine lv_iconst (v := 0) hx hb dX10_stuck_2 (by decide) ?_
  refine lv_istore_n (lv' := [(2, .int 0), (1, .int 0), (0, .ref (c0 0))]) hx hb dX10_stuck_3 rfl hl (by decide) rfl (fun ls hl => ?_)
  exact bkX10_stuck_4L fu _ _ _ hB p e s0 m below meth c A E H locs ls hP hD hS (lv_sub hl [2, 1, 0] rfl)
theorem ckX10_stuck {l : Launch} {dC : Nat → ClassId} {dI : Nat → Nat → Nat} {cB cI cJ cZ cS : ClassId} {a b b2 c0 : Nat → Nat} {rg sl : Nat → Option Nat} {r : Int32} {s' : XS} {s : XS} (hB : kX10_stuck s = some (r, s')) : CI l yX10_stuck wsX10_stuck ({ frames := 6, cells := 0, slots := 0, locals := 152 }) (dC, dI) (tysA cB cI cJ cZ cS) (wX cB cI cJ cZ cS a b b2 c0 rg sl s) [.ref (c0 0)] (fun x u => x = r ∧ u = (wX cB cI cJ cZ cS a b b2 c0 rg sl s')) :=
  CI_of (cc := cX10_stuck) (maxL := 3) (ret := (some .int)) (by decide) rfl (Nat.le_of_ble_eq_true rfl) (bkX10_stuck _ hB)
theorem LX10_chosen_19 : Cond.fieldLink RX10 19 "GuessFerry" "sound" "LGuessFerry$Sound;" ∈ wsX10_chosen := by decide +kernel
theorem LX10_chosen_35 : Cond.fieldLink RX10 35 "GuessFerry" "now" "LGuessFerry$Standing;" ∈ wsX10_chosen := by decide +kernel
theorem LX10_chosen_63 : Cond.fieldLink RX10 63 "GuessFerry" "outlook" "LGuessFerry$Outlook;" ∈ wsX10_chosen := by decide +kernel
theorem LX10_chosen_E_X2_bestGuess : Cond.selects RX2 yX2_bestGuess yX2_bestGuess ∈ wsX10_chosen := by decide +kernel
theorem LX10_chosen_E_X2_oddsOf : Cond.selects RX2 yX2_oddsOf yX2_oddsOf ∈ wsX10_chosen := by decide +kernel
theorem LX10_chosen_I_X2 : Cond.initialized RX2 ∈ wsX10_chosen := by decide +kernel
theorem LX10_chosen_N_X2_bestGuess : Cond.instanceMethod yX2_bestGuess ∈ wsX10_chosen := by decide +kernel
theorem LX10_chosen_N_X2_oddsOf : Cond.instanceMethod yX2_oddsOf ∈ wsX10_chosen := by decide +kernel
theorem inX10_chosen_X10 : ∀ w ∈ u_ws RX10 TX10 9, w ∈ wsX10_chosen := by decide +kernel
theorem inX10_chosen_X5 : ∀ w ∈ u_ws RX5 TX5 10, w ∈ wsX10_chosen := by decide +kernel
theorem inX10_chosen_X6 : ∀ w ∈ u_ws RX6 TX6 7, w ∈ wsX10_chosen := by decide +kernel
set_option maxHeartbeats 4000000 in
set_option maxRecDepth 100000 in
theorem bkX10_chosen_86 {l : Launch} {dC : Nat → ClassId} {dI : Nat → Nat → Nat} {cB cI cJ cZ cS : ClassId} {a b b2 c0 : Nat → Nat} {rg sl : Nat → Option Nat} {as : List Value} {r : Int32} {s' : XS} {k7 : XS → Int32 → Int32 → Int32 → Option (Int32 × XS)} (hk7 : ∀ (s : XS) (x1 : Int32) (x2 : Int32) (x3 : Int32), k7 s x1 x2 x3 = some (r, s') → BlkI l yX10_chosen wsX10_chosen ({ frames := 6, cells := 0, slots := 0, locals := 152 }) cX10_chosen 6 (some .int) (dC, dI) (tysA cB cI cJ cZ cS) as 7 (wX cB cI cJ cZ cS a b b2 c0 rg sl s) [(0, .ref (c0 0)), (1, .int x1), (2, .int x2), (3, .int x3)] [] (fun x u => x = r ∧ u = (wX cB cI cJ cZ cS a b b2 c0 rg sl s'))) (s : XS) (x1 : Int32) (x2 : Int32) (x3 : Int32) (hB : kX10_chosen_86 k7 s x1 x2 x3 = some (r, s')) : BlkI l yX10_chosen wsX10_chosen ({ frames := 6, cells := 0, slots := 0, locals := 152 }) cX10_chosen 6 (some .int) (dC, dI) (tysA cB cI cJ cZ cS) as 86 (wX cB cI cJ cZ cS a b b2 c0 rg sl s) [(0, .ref (c0 0)), (1, .int x1), (2, .int x2), (3, .int x3)] [] (fun x u => x = r ∧ u = (wX cB cI cJ cZ cS a b b2 c0 rg sl s')) := by
  intro p e s0 m below meth c A E H locs ls hP hD hS hl
  obtain ⟨C, hr, hlocks, hA, hK, hN⟩ := id E
  obtain ⟨hx, hb, hml, hown, hts⟩ := id C
  unfold kX10_chosen_86 at hB
  refine lv_iinc (v := (x3 + 1)) (lv' := [(3, .int (x3 + 1)), (0, .ref (c0 0)), (1, .int x1), (2, .int x2)]) hx hb dX10_chosen_86 hl (k := 3) rfl (rfl) (by decide) rfl (fun ls hl => ?_)
  refine lv_goto (tgt := 7) hx hb dX10_chosen_89 (by decide) ?_
  exact hk7 _ _ _ _ hB p e s0 m below meth c A E H locs ls hP hD hS (lv_sub hl [1, 2, 3, 0] rfl)
set_option maxHeartbeats 4000000 in
set_option maxRecDepth 100000 in
theorem bkX10_chosen_73 {l : Launch} {dC : Nat → ClassId} {dI : Nat → Nat → Nat} {cB cI cJ cZ cS : ClassId} {a b b2 c0 : Nat → Nat} {rg sl : Nat → Option Nat} {as : List Value} {r : Int32} {s' : XS} {k7 : XS → Int32 → Int32 → Int32 → Option (Int32 × XS)} (hk7 : ∀ (s : XS) (x1 : Int32) (x2 : Int32) (x3 : Int32), k7 s x1 x2 x3 = some (r, s') → BlkI l yX10_chosen wsX10_chosen ({ frames := 6, cells := 0, slots := 0, locals := 152 }) cX10_chosen 6 (some .int) (dC, dI) (tysA cB cI cJ cZ cS) as 7 (wX cB cI cJ cZ cS a b b2 c0 rg sl s) [(0, .ref (c0 0)), (1, .int x1), (2, .int x2), (3, .int x3)] [] (fun x u => x = r ∧ u = (wX cB cI cJ cZ cS a b b2 c0 rg sl s'))) (s : XS) (x1 : Int32) (x2 : Int32) (x3 : Int32) (t0 : Int32) (hB : kX10_chosen_73 k7 s x1 x2 x3 t0 = some (r, s')) : BlkI l yX10_chosen wsX10_chosen ({ frames := 6, cells := 0, slots := 0, locals := 152 }) cX10_chosen 6 (some .int) (dC, dI) (tysA cB cI cJ cZ cS) as 73 (wX cB cI cJ cZ cS a b b2 c0 rg sl s) [(0, .ref (c0 0)), (1, .int x1), (2, .int x2), (3, .int x3)] [.int t0] (fun x u => x = r ∧ u = (wX cB cI cJ cZ cS a b b2 c0 rg sl s')) := by
  intro p e s0 m below meth c A E H locs ls hP hD hS hl
  obtain ⟨C, hr, hlocks, hA, hK, hN⟩ := id E
  obtain ⟨hx, hb, hml, hown, hts⟩ := id C
  unfold kX10_chosen_73 at hB
  refine lv_istore (lv' := [(5, .int t0), (0, .ref (c0 0)), (1, .int x1), (2, .int x2), (3, .int x3)]) hx hb dX10_chosen_73 hl (by decide) rfl (fun ls hl => ?_)
  refine lv_iload hx hb dX10_chosen_75 (lv_at hl 0 rfl) ?_
  refine lv_iload_n hx hb dX10_chosen_77 rfl (lv_at hl 3 rfl) ?_
  refine lv_icmp_le (tgt := 86) hx hb dX10_chosen_78 (by decide) (fun c1 => ?_) (fun c1 => ?_)
  · have hB := if_p hB c1
    exact bkX10_chosen_86 (hk7) _ _ _ _ hB p e s0 m below meth c A E H locs ls hP hD hS (lv_sub hl [1, 2, 3, 4] rfl)
  · have hB := if_n hB c1
    refine lv_iload hx hb dX10_chosen_81 (lv_at hl 0 rfl) ?_
    refine lv_istore_n (lv' := [(2, .int t0), (5, .int t0), (0, .ref (c0 0)), (1, .int x1), (3, .int x3)]) hx hb dX10_chosen_83 rfl hl (by decide) rfl (fun ls hl => ?_)
    refine lv_iload_n hx hb dX10_chosen_84 rfl (lv_at hl 4 rfl) ?_
    refine lv_istore_n (lv' := [(1, .int x3), (2, .int t0), (5, .int t0), (0, .ref (c0 0)), (3, .int x3)]) hx hb dX10_chosen_85 rfl hl (by decide) rfl (fun ls hl => ?_)
    exact bkX10_chosen_86 (hk7) _ _ _ _ hB p e s0 m below meth c A E H locs ls hP hD hS (lv_sub hl [3, 0, 1, 4] rfl)
set_option maxHeartbeats 4000000 in
set_option maxRecDepth 100000 in
theorem bkX10_chosen_47 {l : Launch} {dC : Nat → ClassId} {dI : Nat → Nat → Nat} {cB cI cJ cZ cS : ClassId} {a b b2 c0 : Nat → Nat} {rg sl : Nat → Option Nat} {as : List Value} {r : Int32} {s' : XS} {k7 : XS → Int32 → Int32 → Int32 → Option (Int32 × XS)} (hk7 : ∀ (s : XS) (x1 : Int32) (x2 : Int32) (x3 : Int32), k7 s x1 x2 x3 = some (r, s') → BlkI l yX10_chosen wsX10_chosen ({ frames := 6, cells := 0, slots := 0, locals := 152 }) cX10_chosen 6 (some .int) (dC, dI) (tysA cB cI cJ cZ cS) as 7 (wX cB cI cJ cZ cS a b b2 c0 rg sl s) [(0, .ref (c0 0)), (1, .int x1), (2, .int x2), (3, .int x3)] [] (fun x u => x = r ∧ u = (wX cB cI cJ cZ cS a b b2 c0 rg sl s'))) (s : XS) (x1 : Int32) (x2 : Int32) (x3 : Int32) (t0 : Int32) (hB : kX10_chosen_47 k7 s x1 x2 x3 t0 = some (r, s')) : BlkI l yX10_chosen wsX10_chosen ({ frames := 6, cells := 0, slots := 0, locals := 152 }) cX10_chosen 6 (some .int) (dC, dI) (tysA cB cI cJ cZ cS) as 47 (wX cB cI cJ cZ cS a b b2 c0 rg sl s) [(0, .ref (c0 0)), (1, .int x1), (2, .int x2), (3, .int x3)] [.int t0] (fun x u => x = r ∧ u = (wX cB cI cJ cZ cS a b b2 c0 rg sl s')) := by
  intro p e s0 m below meth c A E H locs ls hP hD hS hl
  obtain ⟨C, hr, hlocks, hA, hK, hN⟩ := id E
  obtain ⟨hx, hb, hml, hown, hts⟩ := id C
  unfold kX10_chosen_47 at hB
  refine lv_istore (lv' := [(4, .int t0), (0, .ref (c0 0)), (1, .int x1), (2, .int x2), (3, .int x3)]) hx hb dX10_chosen_47 hl (by decide) rfl (fun ls hl => ?_)
  refine lv_iload hx hb dX10_chosen_49 (lv_at hl 0 rfl) ?_
  refine lv_bipush (v := (-2)) hx hb dX10_chosen_51 (by decide) ?_
  refine lv_icmp_ne (tgt := 60) hx hb dX10_chosen_53 (by decide) (fun c1 => ?_) (fun c1 => ?_)
  · have hB := if_n hB c1
    refine lv_aload_n hx hb dX10_chosen_60 rfl (lv_at hl 1 rfl) ?_
    refine q_get (v := .ref (a 36)) C inX10_chosen_X10 hK hP 0 rfl rfl 7 (by decide) rfl LX10_chosen_63 rfl dX10_chosen_61 ?_
    refine lv_aload_n hx hb dX10_chosen_64 rfl (lv_at hl 1 rfl) ?_
    refine q_get (v := .ref (b 0)) C inX10_chosen_X10 hK hP 0 rfl rfl 3 (by decide) rfl LX10_chosen_35 rfl dX10_chosen_65 ?_
    refine lv_iload hx hb dX10_chosen_68 (lv_at hl 0 rfl) ?_
    obtain ⟨q_, s2, hc, hB⟩ := bindI_inv hB
    refine q_goi (wr := ((wG cZ cS a b b2 c0 rg sl s.g) ++ (wD cI b2 s.t))) (va_runVN (As := [.ref (b 0), .int t0]) (rest := []) C (ckX2_oddsOf hc _) ⟨va_cnB 2 hts gX10_chosen_X2_oddsOf_n200 rfl rfl rfl (hN _ nwM_X10_200 rfl) (hts _ LX10_chosen_I_X2) (by decide +kernel) ⟨Nat.le_of_ble_eq_true rfl, Nat.le_of_ble_eq_true rfl⟩, hts _ LX10_chosen_N_X2_oddsOf, hts _ LX10_chosen_E_X2_oddsOf⟩ (q_preV hK hP (ci := 2) (q0 := 53) rfl rfl rfl (q_pre hN hK hP hD [11, 12, 13, 14, 15, 16, 17, 18, 19, 20, 21, 22, 23, 24, 25, 26, 27, 28, 29, 30, 31, 32, 33, 34, 35, 36, 37, 38, 39, 40, 41, 42, 43, 44, 45, 46, 47, 48, 49, 50, 51, 52, 53, 54, 55, 56, 57, 58, 59, 60, 61, 62, 63] rfl (by decide))) rfl rfl hl.1 rfl (lv_room (Nat.le_of_ble_eq_true rfl)) dX10_chosen_70 ⟨Nat.le_of_ble_eq_true rfl, Nat.le_of_ble_eq_true rfl⟩) hP hD hS hA [11, 12, 13, 14, 15, 16, 17, 18, 19, 20, 21, 22, 23, 24, 25, 26, 27, 28, 29, 30, 31, 32, 33, 34, 35, 36, 37, 38, 39, 40, 41, 42, 43, 44, 45, 46, 47, 48, 49, 50, 51, 52, 53, 54, 55, 56, 57, 58, 59, 60, 61, 62, 63] [0, 1, 2, 3, 4, 5, 6, 7, 8, 9, 10] rfl rfl (by decide) (by decide) (fun r3 w1 H locs hw hP hD hS => ?_)
    obtain ⟨hq_, hw⟩ := hw; subst hw; subst hq_
    obtain ⟨s4, hs5, hB⟩ := letS_inv hB
    have hP : va_P (dC, dI) vwCl (wX cB cI cJ cZ cS a b b2 c0 rg sl s4) H := by subst hs5; exact hP
    have hD : va_D A (wX cB cI cJ cZ cS a b b2 c0 rg sl s4) := by subst hs5; exact hD
    exact bkX10_chosen_73 (hk7) _ _ _ _ _ hB p e s0 m below meth c A E H locs ls hP hD hS (lv_sub hl [1, 2, 3, 4] rfl)
  · have hB := if_p hB c1
    refine lv_iconst (v := 0) hx hb dX10_chosen_56 (by decide) ?_
    refine lv_goto (tgt := 73) hx hb dX10_chosen_57 (by decide) ?_
    exact bkX10_chosen_73 (hk7) _ _ _ _ _ hB p e s0 m below meth c A E H locs ls hP hD hS (lv_sub hl [1, 2, 3, 4] rfl)
set_option maxHeartbeats 4000000 in
set_option maxRecDepth 100000 in
theorem bkX10_chosen_7 {l : Launch} {dC : Nat → ClassId} {dI : Nat → Nat → Nat} {cB cI cJ cZ cS : ClassId} {a b b2 c0 : Nat → Nat} {rg sl : Nat → Option Nat} {as : List Value} {r : Int32} {s' : XS} {k7 : XS → Int32 → Int32 → Int32 → Option (Int32 × XS)} (hk7 : ∀ (s : XS) (x1 : Int32) (x2 : Int32) (x3 : Int32), k7 s x1 x2 x3 = some (r, s') → BlkI l yX10_chosen wsX10_chosen ({ frames := 6, cells := 0, slots := 0, locals := 152 }) cX10_chosen 6 (some .int) (dC, dI) (tysA cB cI cJ cZ cS) as 7 (wX cB cI cJ cZ cS a b b2 c0 rg sl s) [(0, .ref (c0 0)), (1, .int x1), (2, .int x2), (3, .int x3)] [] (fun x u => x = r ∧ u = (wX cB cI cJ cZ cS a b b2 c0 rg sl s'))) (s : XS) (x1 : Int32) (x2 : Int32) (x3 : Int32) (hB : kX10_chosen_7 k7 s x1 x2 x3 = some (r, s')) : BlkI l yX10_chosen wsX10_chosen ({ frames := 6, cells := 0, slots := 0, locals := 152 }) cX10_chosen 6 (some .int) (dC, dI) (tysA cB cI cJ cZ cS) as 7 (wX cB cI cJ cZ cS a b b2 c0 rg sl s) [(0, .ref (c0 0)), (1, .int x1), (2, .int x2), (3, .int x3)] [] (fun x u => x = r ∧ u = (wX cB cI cJ cZ cS a b b2 c0 rg sl s')) := by
  intro p e s0 m below meth c A E H locs ls hP hD hS hl
  obtain ⟨C, hr, hlocks, hA, hK, hN⟩ := id E
  obtain ⟨hx, hb, hml, hown, hts⟩ := id C
  unfold kX10_chosen_7 at hB
  refine lv_iload_n hx hb dX10_chosen_7 rfl (lv_at hl 3 rfl) ?_
  refine lv_aload_n hx hb dX10_chosen_8 rfl (lv_at hl 0 rfl) ?_
  refine q_get (v := .ref (a 2)) C inX10_chosen_X10 hK hP 0 rfl rfl 1 (by decide) rfl LX10_chosen_19 rfl dX10_chosen_9 ?_
  refine q_getN (v := .int (s.k.v 2)) C hN inX10_chosen_X5 hK hP 19 rfl rfl 7 (by decide) rfl nwF_X10_235 rfl dX10_chosen_12 ?_
  refine lv_icmp_ge (tgt := 92) hx hb dX10_chosen_15 (by decide) (fun c1 => ?_) (fun c1 => ?_)
  · have hB := if_p hB c1
    refine lv_iload_n hx hb dX10_chosen_92 rfl (lv_at hl 1 rfl) ?_
    exact q_iret C hr hlocks hK hP hD hS (Nat.le_of_ble_eq_true rfl) (Nat.le_of_ble_eq_true rfl) dX10_chosen_93 (by cases hB; exact ⟨rfl, rfl⟩)
  · have hB := if_n hB c1
    refine lv_aload_n hx hb dX10_chosen_18 rfl (lv_at hl 0 rfl) ?_
    refine q_get (v := .ref (b 0)) C inX10_chosen_X10 hK hP 0 rfl rfl 3 (by decide) rfl LX10_chosen_35 rfl dX10_chosen_19 ?_
    refine q_getN (v := .ref (b 4)) C hN inX10_chosen_X6 hK hP 11 rfl rfl 3 (by decide) rfl nwF_X10_147 rfl dX10_chosen_22 ?_
    refine lv_iload_n hx hb dX10_chosen_25 rfl (lv_at hl 3 rfl) ?_
    obtain ⟨g2, hB⟩ := guard_inv hB
    refine q_iald (x := ((s.n.f 3) (Int32.toNatClampNeg x3))) C hK hP 15 1 rfl rfl (vpb_in g2) dX10_chosen_26 rfl ?_
    refine lv_if_ne (tgt := 45) hx hb dX10_chosen_27 (by decide) (fun c3 => ?_) (fun c3 => ?_)
    · have hB := if_n hB c3
      refine lv_bipush (v := (-2)) hx hb dX10_chosen_45 (by decide) ?_
      exact bkX10_chosen_47 (hk7) _ _ _ _ _ hB p e s0 m below meth c A E H locs ls hP hD hS (lv_sub hl [0, 1, 2, 3] rfl)
    · have hB := if_p hB c3
      refine lv_aload_n hx hb dX10_chosen_30 rfl (lv_at hl 0 rfl) ?_
      refine q_get (v := .ref (a 36)) C inX10_chosen_X10 hK hP 0 rfl rfl 7 (by decide) rfl LX10_chosen_63 rfl dX10_chosen_31 ?_
      refine lv_aload_n hx hb dX10_chosen_34 rfl (lv_at hl 0 rfl) ?_
      refine q_get (v := .ref (b 0)) C inX10_chosen_X10 hK hP 0 rfl rfl 3 (by decide) rfl LX10_chosen_35 rfl dX10_chosen_35 ?_
      refine lv_iload_n hx hb dX10_chosen_38 rfl (lv_at hl 3 rfl) ?_
      obtain ⟨q_, s4, hc, hB⟩ := bindI_inv hB
      refine q_goi (wr := ((wG cZ cS a b b2 c0 rg sl s.g) ++ (wD cI b2 s.t))) (va_runVN (As := [.ref (b 0), .int x3]) (rest := []) C (ckX2_bestGuess hc _) ⟨va_cnB 2 hts gX10_chosen_X2_bestGuess_n206 rfl rfl rfl (hN _ nwM_X10_206 rfl) (hts _ LX10_chosen_I_X2) (by decide +kernel) ⟨Nat.le_of_ble_eq_true rfl, Nat.le_of_ble_eq_true rfl⟩, hts _ LX10_chosen_N_X2_bestGuess, hts _ LX10_chosen_E_X2_bestGuess⟩ (q_preV hK hP (ci := 2) (q0 := 53) rfl rfl rfl (q_pre hN hK hP hD [11, 12, 13, 14, 15, 16, 17, 18, 19, 20, 21, 22, 23, 24, 25, 26, 27, 28, 29, 30, 31, 32, 33, 34, 35, 36, 37, 38, 39, 40, 41, 42, 43, 44, 45, 46, 47, 48, 49, 50, 51, 52, 53, 54, 55, 56, 57, 58, 59, 60, 61, 62, 63] rfl (by decide))) rfl rfl hl.1 rfl (lv_room (Nat.le_of_ble_eq_true rfl)) dX10_chosen_39 ⟨Nat.le_of_ble_eq_true rfl, Nat.le_of_ble_eq_true rfl⟩) hP hD hS hA [11, 12, 13, 14, 15, 16, 17, 18, 19, 20, 21, 22, 23, 24, 25, 26, 27, 28, 29, 30, 31, 32, 33, 34, 35, 36, 37, 38, 39, 40, 41, 42, 43, 44, 45, 46, 47, 48, 49, 50, 51, 52, 53, 54, 55, 56, 57, 58, 59, 60, 61, 62, 63] [0, 1, 2, 3, 4, 5, 6, 7, 8, 9, 10] rfl rfl (by decide) (by decide) (fun r5 w1 H locs hw hP hD hS => ?_)
      obtain ⟨hq_, hw⟩ := hw; subst hw; subst hq_
      obtain ⟨s6, hs7, hB⟩ := letS_inv hB
      have hP : va_P (dC, dI) vwCl (wX cB cI cJ cZ cS a b b2 c0 rg sl s6) H := by subst hs7; exact hP
      have hD : va_D A (wX cB cI cJ cZ cS a b b2 c0 rg sl s6) := by subst hs7; exact hD
      refine lv_goto (tgt := 47) hx hb dX10_chosen_42 (by decide) ?_
      exact bkX10_chosen_47 (hk7) _ _ _ _ _ hB p e s0 m below meth c A E H locs ls hP hD hS (lv_sub hl [0, 1, 2, 3] rfl)
theorem bkX10_chosen_7L {l : Launch} {dC : Nat → ClassId} {dI : Nat → Nat → Nat} {cB cI cJ cZ cS : ClassId} {a b b2 c0 : Nat → Nat} {rg sl : Nat → Option Nat} {as : List Value} {r : Int32} {s' : XS} : ∀ (n : Nat) (s : XS) (x1 : Int32) (x2 : Int32) (x3 : Int32), kX10_chosen_7L n s x1 x2 x3 = some (r, s') → BlkI l yX10_chosen wsX10_chosen ({ frames := 6, cells := 0, slots := 0, locals := 152 }) cX10_chosen 6 (some .int) (dC, dI) (tysA cB cI cJ cZ cS) as 7 (wX cB cI cJ cZ cS a b b2 c0 rg sl s) [(0, .ref (c0 0)), (1, .int x1), (2, .int x2), (3, .int x3)] [] (fun x u => x = r ∧ u = (wX cB cI cJ cZ cS a b b2 c0 rg sl s')) := by
  intro n
  induction n with
  | zero => intro s x1 x2 x3 hB; exact none_ne hB
  | succ n ih => intro s x1 x2 x3 hB; exact bkX10_chosen_7 ih _ _ _ _ hB
set_option maxHeartbeats 4000000 in
set_option maxRecDepth 100000 in
theorem bkX10_chosen {l : Launch} {dC : Nat → ClassId} {dI : Nat → Nat → Nat} {cB cI cJ cZ cS : ClassId} {a b b2 c0 : Nat → Nat} {rg sl : Nat → Option Nat} {as : List Value} {r : Int32} {s' : XS} (s : XS) (hB : kX10_chosen s = some (r, s')) : BlkI l yX10_chosen wsX10_chosen ({ frames := 6, cells := 0, slots := 0, locals := 152 }) cX10_chosen 6 (some .int) (dC, dI) (tysA cB cI cJ cZ cS) as 0 (wX cB cI cJ cZ cS a b b2 c0 rg sl s) [(0, .ref (c0 0))] [] (fun x u => x = r ∧ u = (wX cB cI cJ cZ cS a b b2 c0 rg sl s')) := by
  intro p e s0 m below meth c A E H locs ls hP hD hS hl
  obtain ⟨C, hr, hlocks, hA, hK, hN⟩ := id E
  obtain ⟨hx, hb, hml, hown, hts⟩ := id C
  unfold kX10_chosen at hB
  refine lv_bipush (v := (-2)) hx hb dX10_chosen_0 (by decide) ?_
  refine lv_istore_n (lv' := [(1, .int (-2)), (0, .ref (c0 0))]) hx hb dX10_chosen_2 rfl hl (by decide) rfl (fun ls hl => ?_)
  refine lv_iconst (v := 0) hx hb dX10_chosen_3 (by decide) ?_
  refine lv_istore_n (lv' := [(2, .int 0), (1, .int (-2)), (0, .ref (c0 0))]) hx hb dX10_chosen_4 rfl hl (by decide) rfl (fun ls hl => ?_)
  refine lv_iconst (v := 0) hx hb dX10_chosen_5 (by decide) ?_
  refine lv_istore_n (lv' := [(3, .int 0), (2, .int 0), (1, .int (-2)), (0, .ref (c0 0))]) hx hb dX10_chosen_6 rfl hl (by decide) rfl (fun ls hl => ?_)
  exact bkX10_chosen_7L fu _ _ _ _ hB p e s0 m below meth c A E H locs ls hP hD hS (lv_sub hl [3, 2, 1, 0] rfl)
theorem ckX10_chosen {l : Launch} {dC : Nat → ClassId} {dI : Nat → Nat → Nat} {cB cI cJ cZ cS : ClassId} {a b b2 c0 : Nat → Nat} {rg sl : Nat → Option Nat} {r : Int32} {s' : XS} {s : XS} (hB : kX10_chosen s = some (r, s')) : CI l yX10_chosen wsX10_chosen ({ frames := 6, cells := 0, slots := 0, locals := 152 }) (dC, dI) (tysA cB cI cJ cZ cS) (wX cB cI cJ cZ cS a b b2 c0 rg sl s) [.ref (c0 0)] (fun x u => x = r ∧ u = (wX cB cI cJ cZ cS a b b2 c0 rg sl s')) :=
  CI_of (cc := cX10_chosen) (maxL := 6) (ret := (some .int)) (by decide) rfl (Nat.le_of_ble_eq_true rfl) (bkX10_chosen _ hB)
theorem LX10_allGo_19 : Cond.fieldLink RX10 19 "GuessFerry" "sound" "LGuessFerry$Sound;" ∈ wsX10_allGo := by decide +kernel
theorem LX10_allGo_35 : Cond.fieldLink RX10 35 "GuessFerry" "now" "LGuessFerry$Standing;" ∈ wsX10_allGo := by decide +kernel
theorem LX10_allGo_39 : Cond.fieldLink RX10 39 "GuessFerry" "trial" "LGuessFerry$Standing;" ∈ wsX10_allGo := by decide +kernel
theorem LX10_allGo_54 : Cond.fieldLink RX10 54 "GuessFerry" "crossing" "LGuessFerry$Crossing;" ∈ wsX10_allGo := by decide +kernel
theorem LX10_allGo_63 : Cond.fieldLink RX10 63 "GuessFerry" "outlook" "LGuessFerry$Outlook;" ∈ wsX10_allGo := by decide +kernel
theorem LX10_allGo_E_X0_isDaring : Cond.selects RX0 yX0_isDaring yX0_isDaring ∈ wsX10_allGo := by decide +kernel
theorem LX10_allGo_E_X0_sendBy : Cond.selects RX0 yX0_sendBy yX0_sendBy ∈ wsX10_allGo := by decide +kernel
theorem LX10_allGo_E_X2_bestGuess : Cond.selects RX2 yX2_bestGuess yX2_bestGuess ∈ wsX10_allGo := by decide +kernel
theorem LX10_allGo_E_X6_copyFrom : Cond.selects RX6 yX6_copyFrom yX6_copyFrom ∈ wsX10_allGo := by decide +kernel
theorem LX10_allGo_I_X0 : Cond.initialized RX0 ∈ wsX10_allGo := by decide +kernel
theorem LX10_allGo_I_X2 : Cond.initialized RX2 ∈ wsX10_allGo := by decide +kernel
theorem LX10_allGo_I_X6 : Cond.initialized RX6 ∈ wsX10_allGo := by decide +kernel
theorem LX10_allGo_N_X0_isDaring : Cond.instanceMethod yX0_isDaring ∈ wsX10_allGo := by decide +kernel
theorem LX10_allGo_N_X0_sendBy : Cond.instanceMethod yX0_sendBy ∈ wsX10_allGo := by decide +kernel
theorem LX10_allGo_N_X2_bestGuess : Cond.instanceMethod yX2_bestGuess ∈ wsX10_allGo := by decide +kernel
theorem LX10_allGo_N_X6_copyFrom : Cond.instanceMethod yX6_copyFrom ∈ wsX10_allGo := by decide +kernel
theorem inX10_allGo_X10 : ∀ w ∈ u_ws RX10 TX10 9, w ∈ wsX10_allGo := by decide +kernel
theorem inX10_allGo_X5 : ∀ w ∈ u_ws RX5 TX5 10, w ∈ wsX10_allGo := by decide +kernel
theorem inX10_allGo_X6 : ∀ w ∈ u_ws RX6 TX6 7, w ∈ wsX10_allGo := by decide +kernel
set_option maxHeartbeats 4000000 in
set_option maxRecDepth 100000 in
theorem bkX10_allGo_136 {l : Launch} {dC : Nat → ClassId} {dI : Nat → Nat → Nat} {cB cI cJ cZ cS : ClassId} {a b b2 c0 : Nat → Nat} {rg sl : Nat → Option Nat} {as : List Value} {r : Int32} {s' : XS} (s : XS) (t0 : Int32) (hB : kX10_allGo_136 s t0 = some (r, s')) : BlkI l yX10_allGo wsX10_allGo ({ frames := 6, cells := 0, slots := 0, locals := 152 }) cX10_allGo 4 (some .int) (dC, dI) (tysA cB cI cJ cZ cS) as 136 (wX cB cI cJ cZ cS a b b2 c0 rg sl s) [] [.int t0, .ref (b2 0), .ref (c0 0)] (fun x u => x = r ∧ u = (wX cB cI cJ cZ cS a b b2 c0 rg sl s')) := by
  intro p e s0 m below meth c A E H locs ls hP hD hS hl
  obtain ⟨C, hr, hlocks, hA, hK, hN⟩ := id E
  obtain ⟨hx, hb, hml, hown, hts⟩ := id C
  unfold kX10_allGo_136 at hB
  obtain ⟨q_, s1, hc, hB⟩ := bindI_inv hB
  refine q_goiF (va_runV (As := [.ref (b2 0), .int t0]) (rest := []) C (ckX10_partiesThatAre_t hc _) (cwV 2 hts gX10_allGo_X10_partiesThatAre rfl rfl rfl (by decide +kernel) ⟨Nat.le_of_ble_eq_true rfl, Nat.le_of_ble_eq_true rfl⟩) (q_preV hK hP (ci := 10) (q0 := 0) rfl rfl rfl (q_preF hN hK hP hD)) rfl rfl hl.1 rfl (lv_room (Nat.le_of_ble_eq_true rfl)) dX10_allGo_136 ⟨Nat.le_of_ble_eq_true rfl, Nat.le_of_ble_eq_true rfl⟩) hD hS hA (fun r2 w1 H locs hw hP hD hS => ?_)
  obtain ⟨hq_, hw⟩ := hw; subst hw; subst hq_
  obtain ⟨q_, hc, hB⟩ := bindP_inv hB
  refine q_goi0 (va_runS (As := [.int r2]) (rest := []) C (ckJ6_bitCount_0f7a4 hc _) (va_cwS 1 hts gX10_allGo_J6_bitCount_0f7a4 rfl rfl rfl (by decide +kernel) ⟨Nat.le_of_ble_eq_true rfl, Nat.le_of_ble_eq_true rfl⟩) (q_pre0 hN hK) rfl rfl hl.1 rfl (lv_room (Nat.le_of_ble_eq_true rfl)) dX10_allGo_139 ⟨Nat.le_of_ble_eq_true rfl, Nat.le_of_ble_eq_true rfl⟩) hP hD hS hA (fun r3 w1 H locs hw hP hS => ?_)
  subst hw
  exact q_iret C hr hlocks hK hP hD hS (Nat.le_of_ble_eq_true rfl) (Nat.le_of_ble_eq_true rfl) dX10_allGo_142 (by cases hB; exact ⟨rfl, rfl⟩)
set_option maxHeartbeats 4000000 in
set_option maxRecDepth 100000 in
theorem bkX10_allGo_95 {l : Launch} {dC : Nat → ClassId} {dI : Nat → Nat → Nat} {cB cI cJ cZ cS : ClassId} {a b b2 c0 : Nat → Nat} {rg sl : Nat → Option Nat} {as : List Value} {r : Int32} {s' : XS} {k24 : XS → Int32 → Int32 → Option (Int32 × XS)} (hk24 : ∀ (s : XS) (x1 : Int32) (x2 : Int32), k24 s x1 x2 = some (r, s') → BlkI l yX10_allGo wsX10_allGo ({ frames := 6, cells := 0, slots := 0, locals := 152 }) cX10_allGo 4 (some .int) (dC, dI) (tysA cB cI cJ cZ cS) as 24 (wX cB cI cJ cZ cS a b b2 c0 rg sl s) [(0, .ref (c0 0)), (1, .int x1), (2, .int x2)] [] (fun x u => x = r ∧ u = (wX cB cI cJ cZ cS a b b2 c0 rg sl s'))) (s : XS) (x1 : Int32) (x2 : Int32) (hB : kX10_allGo_95 k24 s x1 x2 = some (r, s')) : BlkI l yX10_allGo wsX10_allGo ({ frames := 6, cells := 0, slots := 0, locals := 152 }) cX10_allGo 4 (some .int) (dC, dI) (tysA cB cI cJ cZ cS) as 95 (wX cB cI cJ cZ cS a b b2 c0 rg sl s) [(0, .ref (c0 0)), (1, .int x1), (2, .int x2)] [] (fun x u => x = r ∧ u = (wX cB cI cJ cZ cS a b b2 c0 rg sl s')) := by
  intro p e s0 m below meth c A E H locs ls hP hD hS hl
  obtain ⟨C, hr, hlocks, hA, hK, hN⟩ := id E
  obtain ⟨hx, hb, hml, hown, hts⟩ := id C
  unfold kX10_allGo_95 at hB
  refine lv_iinc (v := (x2 + 1)) (lv' := [(2, .int (x2 + 1)), (0, .ref (c0 0)), (1, .int x1)]) hx hb dX10_allGo_95 hl (k := 2) rfl (rfl) (by decide) rfl (fun ls hl => ?_)
  refine lv_goto (tgt := 24) hx hb dX10_allGo_98 (by decide) ?_
  exact hk24 _ _ _ hB p e s0 m below meth c A E H locs ls hP hD hS (lv_sub hl [1, 2, 0] rfl)
set_option maxHeartbeats 4000000 in
set_option maxRecDepth 100000 in
theorem bkX10_allGo_24 {l : Launch} {dC : Nat → ClassId} {dI : Nat → Nat → Nat} {cB cI cJ cZ cS : ClassId} {a b b2 c0 : Nat → Nat} {rg sl : Nat → Option Nat} {as : List Value} {r : Int32} {s' : XS} {k24 : XS → Int32 → Int32 → Option (Int32 × XS)} (hk24 : ∀ (s : XS) (x1 : Int32) (x2 : Int32), k24 s x1 x2 = some (r, s') → BlkI l yX10_allGo wsX10_allGo ({ frames := 6, cells := 0, slots := 0, locals := 152 }) cX10_allGo 4 (some .int) (dC, dI) (tysA cB cI cJ cZ cS) as 24 (wX cB cI cJ cZ cS a b b2 c0 rg sl s) [(0, .ref (c0 0)), (1, .int x1), (2, .int x2)] [] (fun x u => x = r ∧ u = (wX cB cI cJ cZ cS a b b2 c0 rg sl s'))) (s : XS) (x1 : Int32) (x2 : Int32) (hB : kX10_allGo_24 k24 s x1 x2 = some (r, s')) : BlkI l yX10_allGo wsX10_allGo ({ frames := 6, cells := 0, slots := 0, locals := 152 }) cX10_allGo 4 (some .int) (dC, dI) (tysA cB cI cJ cZ cS) as 24 (wX cB cI cJ cZ cS a b b2 c0 rg sl s) [(0, .ref (c0 0)), (1, .int x1), (2, .int x2)] [] (fun x u => x = r ∧ u = (wX cB cI cJ cZ cS a b b2 c0 rg sl s')) := by
  intro p e s0 m below meth c A E H locs ls hP hD hS hl
  obtain ⟨C, hr, hlocks, hA, hK, hN⟩ := id E
  obtain ⟨hx, hb, hml, hown, hts⟩ := id C
  unfold kX10_allGo_24 at hB
  refine lv_iload_n hx hb dX10_allGo_24 rfl (lv_at hl 2 rfl) ?_
  refine lv_aload_n hx hb dX10_allGo_25 rfl (lv_at hl 0 rfl) ?_
  refine q_get (v := .ref (a 2)) C inX10_allGo_X10 hK hP 0 rfl rfl 1 (by decide) rfl LX10_allGo_19 rfl dX10_allGo_26 ?_
  refine q_getN (v := .int (s.k.v 2)) C hN inX10_allGo_X5 hK hP 19 rfl rfl 7 (by decide) rfl nwF_X10_235 rfl dX10_allGo_29 ?_
  refine lv_icmp_ge (tgt := 101) hx hb dX10_allGo_32 (by decide) (fun c1 => ?_) (fun c1 => ?_)
  · have hB := if_p hB c1
    refine lv_iload_n hx hb dX10_allGo_101 rfl (lv_at hl 1 rfl) ?_
    refine lv_iconst (v := 2) hx hb dX10_allGo_102 (by decide) ?_
    refine lv_icmp_ne (tgt := 122) hx hb dX10_allGo_103 (by decide) (fun c2 => ?_) (fun c2 => ?_)
    · have hB := if_n hB c2
      refine lv_aload_n hx hb dX10_allGo_122 rfl (lv_at hl 0 rfl) ?_
      refine lv_aload_n hx hb dX10_allGo_123 rfl (lv_at hl 0 rfl) ?_
      refine q_get (v := .ref (b2 0)) C inX10_allGo_X10 hK hP 0 rfl rfl 4 (by decide) rfl LX10_allGo_39 rfl dX10_allGo_124 ?_
      refine lv_iload_n hx hb dX10_allGo_127 rfl (lv_at hl 1 rfl) ?_
      refine lv_if_ne (tgt := 135) hx hb dX10_allGo_128 (by decide) (fun c3 => ?_) (fun c3 => ?_)
      · have hB := if_n hB c3
        refine lv_iconst (v := 1) hx hb dX10_allGo_135 (by decide) ?_
        exact bkX10_allGo_136 _ _ hB p e s0 m below meth c A E H locs ls hP hD hS (lv_sub hl [] rfl)
      · have hB := if_p hB c3
        refine lv_iconst (v := 2) hx hb dX10_allGo_131 (by decide) ?_
        refine lv_goto (tgt := 136) hx hb dX10_allGo_132 (by decide) ?_
        exact bkX10_allGo_136 _ _ hB p e s0 m below meth c A E H locs ls hP hD hS (lv_sub hl [] rfl)
    · have hB := if_p hB c2
      refine lv_aload_n hx hb dX10_allGo_106 rfl (lv_at hl 0 rfl) ?_
      refine q_get (v := .ref (b2 0)) C inX10_allGo_X10 hK hP 0 rfl rfl 4 (by decide) rfl LX10_allGo_39 rfl dX10_allGo_107 ?_
      refine q_getN (v := .int (s.t.v 6)) C hN inX10_allGo_X6 hK hP 5 rfl rfl 6 (by decide) rfl nwF_X10_241 rfl dX10_allGo_110 ?_
      refine lv_aload_n hx hb dX10_allGo_113 rfl (lv_at hl 0 rfl) ?_
      refine q_get (v := .ref (b 0)) C inX10_allGo_X10 hK hP 0 rfl rfl 3 (by decide) rfl LX10_allGo_35 rfl dX10_allGo_114 ?_
      refine q_getN (v := .int (s.n.v 6)) C hN inX10_allGo_X6 hK hP 11 rfl rfl 6 (by decide) rfl nwF_X10_241 rfl dX10_allGo_117 ?_
      refine lv_isub hx hb dX10_allGo_120 ?_
      exact q_iret C hr hlocks hK hP hD hS (Nat.le_of_ble_eq_true rfl) (Nat.le_of_ble_eq_true rfl) dX10_allGo_121 (by cases hB; exact ⟨rfl, rfl⟩)
  · have hB := if_n hB c1
    refine lv_aload_n hx hb dX10_allGo_35 rfl (lv_at hl 0 rfl) ?_
    refine q_get (v := .ref (b2 0)) C inX10_allGo_X10 hK hP 0 rfl rfl 4 (by decide) rfl LX10_allGo_39 rfl dX10_allGo_36 ?_
    refine q_getN (v := .ref (b2 4)) C hN inX10_allGo_X6 hK hP 5 rfl rfl 3 (by decide) rfl nwF_X10_147 rfl dX10_allGo_39 ?_
    refine lv_iload_n hx hb dX10_allGo_42 rfl (lv_at hl 2 rfl) ?_
    obtain ⟨g4, hB⟩ := guard_inv hB
    refine q_iald (x := ((s.t.f 3) (Int32.toNatClampNeg x2))) C hK hP 9 1 rfl rfl (vpb_in g4) dX10_allGo_43 rfl ?_
    refine lv_if_ne (tgt := 95) hx hb dX10_allGo_44 (by decide) (fun c5 => ?_) (fun c5 => ?_)
    · have hB := if_n hB c5
      exact bkX10_allGo_95 (hk24) _ _ _ hB p e s0 m below meth c A E H locs ls hP hD hS (lv_sub hl [0, 1, 2] rfl)
    · have hB := if_p hB c5
      refine lv_aload_n hx hb dX10_allGo_47 rfl (lv_at hl 0 rfl) ?_
      refine q_get (v := .ref (a 35)) C inX10_allGo_X10 hK hP 0 rfl rfl 6 (by decide) rfl LX10_allGo_54 rfl dX10_allGo_48 ?_
      refine lv_aload_n hx hb dX10_allGo_51 rfl (lv_at hl 0 rfl) ?_
      refine q_get (v := .ref (b2 0)) C inX10_allGo_X10 hK hP 0 rfl rfl 4 (by decide) rfl LX10_allGo_39 rfl dX10_allGo_52 ?_
      refine lv_iload_n hx hb dX10_allGo_55 rfl (lv_at hl 2 rfl) ?_
      obtain ⟨q_, s6, hc, hB⟩ := bindI_inv hB
      refine q_goi (wr := ((wG cZ cS a b b2 c0 rg sl s.g) ++ (wD cI b s.n))) (va_runVN (As := [.ref (b2 0), .int x2]) (rest := []) C (ckX0_isDaring hc _) ⟨va_cnB 2 hts gX10_allGo_X0_isDaring_n156 rfl rfl rfl (hN _ nwM_X10_156 rfl) (hts _ LX10_allGo_I_X0) (by decide +kernel) ⟨Nat.le_of_ble_eq_true rfl, Nat.le_of_ble_eq_true rfl⟩, hts _ LX10_allGo_N_X0_isDaring, hts _ LX10_allGo_E_X0_isDaring⟩ (q_preV hK hP (ci := 0) (q0 := 52) rfl rfl rfl (q_pre hN hK hP hD [5, 6, 7, 8, 9, 10, 17, 18, 19, 20, 21, 22, 23, 24, 25, 26, 27, 28, 29, 30, 31, 32, 33, 34, 35, 36, 37, 38, 39, 40, 41, 42, 43, 44, 45, 46, 47, 48, 49, 50, 51, 52, 53, 54, 55, 56, 57, 58, 59, 60, 61, 62, 63] rfl (by decide))) rfl rfl hl.1 rfl (lv_room (Nat.le_of_ble_eq_true rfl)) dX10_allGo_56 ⟨Nat.le_of_ble_eq_true rfl, Nat.le_of_ble_eq_true rfl⟩) hP hD hS hA [5, 6, 7, 8, 9, 10, 17, 18, 19, 20, 21, 22, 23, 24, 25, 26, 27, 28, 29, 30, 31, 32, 33, 34, 35, 36, 37, 38, 39, 40, 41, 42, 43, 44, 45, 46, 47, 48, 49, 50, 51, 52, 53, 54, 55, 56, 57, 58, 59, 60, 61, 62, 63] [0, 1, 2, 3, 4, 11, 12, 13, 14, 15, 16] rfl rfl (by decide) (by decide) (fun r7 w1 H locs hw hP hD hS => ?_)
      obtain ⟨hq_, hw⟩ := hw; subst hw; subst hq_
      obtain ⟨s8, hs9, hB⟩ := letS_inv hB
      have hP : va_P (dC, dI) vwCl (wX cB cI cJ cZ cS a b b2 c0 rg sl s8) H := by subst hs9; exact hP.sub [0, 1, 2, 3, 4, 11, 12, 13, 14, 15, 16, 5, 6, 7, 8, 9, 10, 17, 18, 19, 20, 21, 22, 23, 24, 25, 26, 27, 28, 29, 30, 31, 32, 33, 34, 35, 36, 37, 38, 39, 40, 41, 42, 43, 44, 45, 46, 47, 48, 49, 50, 51, 52, 53, 54, 55, 56, 57, 58, 59, 60, 61, 62, 63] rfl
      have hD : va_D A (wX cB cI cJ cZ cS a b b2 c0 rg sl s8) := by subst hs9; exact hD.sub [0, 1, 2, 3, 4, 11, 12, 13, 14, 15, 16, 5, 6, 7, 8, 9, 10, 17, 18, 19, 20, 21, 22, 23, 24, 25, 26, 27, 28, 29, 30, 31, 32, 33, 34, 35, 36, 37, 38, 39, 40, 41, 42, 43, 44, 45, 46, 47, 48, 49, 50, 51, 52, 53, 54, 55, 56, 57, 58, 59, 60, 61, 62, 63] (by decide) rfl
      refine lv_if_eq (tgt := 95) hx hb dX10_allGo_59 (by decide) (fun c10 => ?_) (fun c10 => ?_)
      · have hB := if_p hB c10
        exact bkX10_allGo_95 (hk24) _ _ _ hB p e s0 m below meth c A E H locs ls hP hD hS (lv_sub hl [0, 1, 2] rfl)
      · have hB := if_n hB c10
        refine lv_aload_n hx hb dX10_allGo_62 rfl (lv_at hl 0 rfl) ?_
        refine q_get (v := .ref (a 36)) C inX10_allGo_X10 hK hP 0 rfl rfl 7 (by decide) rfl LX10_allGo_63 rfl dX10_allGo_63 ?_
        refine lv_aload_n hx hb dX10_allGo_66 rfl (lv_at hl 0 rfl) ?_
        refine q_get (v := .ref (b2 0)) C inX10_allGo_X10 hK hP 0 rfl rfl 4 (by decide) rfl LX10_allGo_39 rfl dX10_allGo_67 ?_
        refine lv_iload_n hx hb dX10_allGo_70 rfl (lv_at hl 2 rfl) ?_
        obtain ⟨q_, s11, hc, hB⟩ := bindI_inv hB
        refine q_goi (wr := ((wG cZ cS a b b2 c0 rg sl s8.g) ++ (wD cI b s8.n))) (va_runVN (As := [.ref (b2 0), .int x2]) (rest := []) C (ckX2_bestGuess hc _) ⟨va_cnB 2 hts gX10_allGo_X2_bestGuess_n206 rfl rfl rfl (hN _ nwM_X10_206 rfl) (hts _ LX10_allGo_I_X2) (by decide +kernel) ⟨Nat.le_of_ble_eq_true rfl, Nat.le_of_ble_eq_true rfl⟩, hts _ LX10_allGo_N_X2_bestGuess, hts _ LX10_allGo_E_X2_bestGuess⟩ (q_preV hK hP (ci := 2) (q0 := 53) rfl rfl rfl (q_pre hN hK hP hD [5, 6, 7, 8, 9, 10, 17, 18, 19, 20, 21, 22, 23, 24, 25, 26, 27, 28, 29, 30, 31, 32, 33, 34, 35, 36, 37, 38, 39, 40, 41, 42, 43, 44, 45, 46, 47, 48, 49, 50, 51, 52, 53, 54, 55, 56, 57, 58, 59, 60, 61, 62, 63] rfl (by decide))) rfl rfl hl.1 rfl (lv_room (Nat.le_of_ble_eq_true rfl)) dX10_allGo_71 ⟨Nat.le_of_ble_eq_true rfl, Nat.le_of_ble_eq_true rfl⟩) hP hD hS hA [5, 6, 7, 8, 9, 10, 17, 18, 19, 20, 21, 22, 23, 24, 25, 26, 27, 28, 29, 30, 31, 32, 33, 34, 35, 36, 37, 38, 39, 40, 41, 42, 43, 44, 45, 46, 47, 48, 49, 50, 51, 52, 53, 54, 55, 56, 57, 58, 59, 60, 61, 62, 63] [0, 1, 2, 3, 4, 11, 12, 13, 14, 15, 16] rfl rfl (by decide) (by decide) (fun r12 w1 H locs hw hP hD hS => ?_)
        obtain ⟨hq_, hw⟩ := hw; subst hw; subst hq_
        obtain ⟨s13, hs14, hB⟩ := letS_inv hB
        have hP : va_P (dC, dI) vwCl (wX cB cI cJ cZ cS a b b2 c0 rg sl s13) H := by subst hs14; exact hP.sub [0, 1, 2, 3, 4, 11, 12, 13, 14, 15, 16, 5, 6, 7, 8, 9, 10, 17, 18, 19, 20, 21, 22, 23, 24, 25, 26, 27, 28, 29, 30, 31, 32, 33, 34, 35, 36, 37, 38, 39, 40, 41, 42, 43, 44, 45, 46, 47, 48, 49, 50, 51, 52, 53, 54, 55, 56, 57, 58, 59, 60, 61, 62, 63] rfl
        have hD : va_D A (wX cB cI cJ cZ cS a b b2 c0 rg sl s13) := by subst hs14; exact hD.sub [0, 1, 2, 3, 4, 11, 12, 13, 14, 15, 16, 5, 6, 7, 8, 9, 10, 17, 18, 19, 20, 21, 22, 23, 24, 25, 26, 27, 28, 29, 30, 31, 32, 33, 34, 35, 36, 37, 38, 39, 40, 41, 42, 43, 44, 45, 46, 47, 48, 49, 50, 51, 52, 53, 54, 55, 56, 57, 58, 59, 60, 61, 62, 63] (by decide) rfl
        refine lv_istore_n (lv' := [(3, .int r12), (0, .ref (c0 0)), (1, .int x1), (2, .int x2)]) hx hb dX10_allGo_74 rfl hl (by decide) rfl (fun ls hl => ?_)
        refine lv_iload_n hx hb dX10_allGo_75 rfl (lv_at hl 0 rfl) ?_
        refine lv_bipush (v := (-2)) hx hb dX10_allGo_76 (by decide) ?_
        refine lv_icmp_eq (tgt := 95) hx hb dX10_allGo_78 (by decide) (fun c15 => ?_) (fun c15 => ?_)
        · have hB := if_p hB c15
          exact bkX10_allGo_95 (hk24) _ _ _ hB p e s0 m below meth c A E H locs ls hP hD hS (lv_sub hl [1, 2, 3] rfl)
        · have hB := if_n hB c15
          refine lv_aload_n hx hb dX10_allGo_81 rfl (lv_at hl 1 rfl) ?_
          refine q_get (v := .ref (a 35)) C inX10_allGo_X10 hK hP 0 rfl rfl 6 (by decide) rfl LX10_allGo_54 rfl dX10_allGo_82 ?_
          refine lv_aload_n hx hb dX10_allGo_85 rfl (lv_at hl 1 rfl) ?_
          refine q_get (v := .ref (b2 0)) C inX10_allGo_X10 hK hP 0 rfl rfl 4 (by decide) rfl LX10_allGo_39 rfl dX10_allGo_86 ?_
          refine lv_iload_n hx hb dX10_allGo_89 rfl (lv_at hl 3 rfl) ?_
          refine lv_iload_n hx hb dX10_allGo_90 rfl (lv_at hl 0 rfl) ?_
          obtain ⟨q_, s16, hc, hB⟩ := bindI_inv hB
          refine q_goi (wr := ((wG cZ cS a b b2 c0 rg sl s13.g) ++ (wD cI b s13.n))) (va_runVN (As := [.ref (b2 0), .int x2, .int r12]) (rest := []) C (ckX0_sendBy hc _) ⟨va_cnB 3 hts gX10_allGo_X0_sendBy_n177 rfl rfl rfl (hN _ nwM_X10_177 rfl) (hts _ LX10_allGo_I_X0) (by decide +kernel) ⟨Nat.le_of_ble_eq_true rfl, Nat.le_of_ble_eq_true rfl⟩, hts _ LX10_allGo_N_X0_sendBy, hts _ LX10_allGo_E_X0_sendBy⟩ (q_preV hK hP (ci := 0) (q0 := 52) rfl rfl rfl (q_pre hN hK hP hD [5, 6, 7, 8, 9, 10, 17, 18, 19, 20, 21, 22, 23, 24, 25, 26, 27, 28, 29, 30, 31, 32, 33, 34, 35, 36, 37, 38, 39, 40, 41, 42, 43, 44, 45, 46, 47, 48, 49, 50, 51, 52, 53, 54, 55, 56, 57, 58, 59, 60, 61, 62, 63] rfl (by decide))) rfl rfl hl.1 rfl (lv_room (Nat.le_of_ble_eq_true rfl)) dX10_allGo_91 ⟨Nat.le_of_ble_eq_true rfl, Nat.le_of_ble_eq_true rfl⟩) hP hD hS hA [5, 6, 7, 8, 9, 10, 17, 18, 19, 20, 21, 22, 23, 24, 25, 26, 27, 28, 29, 30, 31, 32, 33, 34, 35, 36, 37, 38, 39, 40, 41, 42, 43, 44, 45, 46, 47, 48, 49, 50, 51, 52, 53, 54, 55, 56, 57, 58, 59, 60, 61, 62, 63] [0, 1, 2, 3, 4, 11, 12, 13, 14, 15, 16] rfl rfl (by decide) (by decide) (fun r17 w1 H locs hw hP hD hS => ?_)
          obtain ⟨hq_, hw⟩ := hw; subst hw; subst hq_
          obtain ⟨s18, hs19, hB⟩ := letS_inv hB
          have hP : va_P (dC, dI) vwCl (wX cB cI cJ cZ cS a b b2 c0 rg sl s18) H := by subst hs19; exact hP.sub [0, 1, 2, 3, 4, 11, 12, 13, 14, 15, 16, 5, 6, 7, 8, 9, 10, 17, 18, 19, 20, 21, 22, 23, 24, 25, 26, 27, 28, 29, 30, 31, 32, 33, 34, 35, 36, 37, 38, 39, 40, 41, 42, 43, 44, 45, 46, 47, 48, 49, 50, 51, 52, 53, 54, 55, 56, 57, 58, 59, 60, 61, 62, 63] rfl
          have hD : va_D A (wX cB cI cJ cZ cS a b b2 c0 rg sl s18) := by subst hs19; exact hD.sub [0, 1, 2, 3, 4, 11, 12, 13, 14, 15, 16, 5, 6, 7, 8, 9, 10, 17, 18, 19, 20, 21, 22, 23, 24, 25, 26, 27, 28, 29, 30, 31, 32, 33, 34, 35, 36, 37, 38, 39, 40, 41, 42, 43, 44, 45, 46, 47, 48, 49, 50, 51, 52, 53, 54, 55, 56, 57, 58, 59, 60, 61, 62, 63] (by decide) rfl
          refine lv_pop hx hb dX10_allGo_94 rfl ?_
          exact bkX10_allGo_95 (hk24) _ _ _ hB p e s0 m below meth c A E H locs ls hP hD hS (lv_sub hl [1, 2, 3] rfl)
theorem bkX10_allGo_24L {l : Launch} {dC : Nat → ClassId} {dI : Nat → Nat → Nat} {cB cI cJ cZ cS : ClassId} {a b b2 c0 : Nat → Nat} {rg sl : Nat → Option Nat} {as : List Value} {r : Int32} {s' : XS} : ∀ (n : Nat) (s : XS) (x1 : Int32) (x2 : Int32), kX10_allGo_24L n s x1 x2 = some (r, s') → BlkI l yX10_allGo wsX10_allGo ({ frames := 6, cells := 0, slots := 0, locals := 152 }) cX10_allGo 4 (some .int) (dC, dI) (tysA cB cI cJ cZ cS) as 24 (wX cB cI cJ cZ cS a b b2 c0 rg sl s) [(0, .ref (c0 0)), (1, .int x1), (2, .int x2)] [] (fun x u => x = r ∧ u = (wX cB cI cJ cZ cS a b b2 c0 rg sl s')) := by
  intro n
  induction n with
  | zero => intro s x1 x2 hB; exact none_ne hB
  | succ n ih => intro s x1 x2 hB; exact bkX10_allGo_24 ih _ _ _ hB
set_option maxHeartbeats 4000000 in
set_option maxRecDepth 100000 in
theorem bkX10_allGo {l : Launch} {dC : Nat → ClassId} {dI : Nat → Nat → Nat} {cB cI cJ cZ cS : ClassId} {a b b2 c0 : Nat → Nat} {rg sl : Nat → Option Nat} {as : List Value} {r : Int32} {s' : XS} (s : XS) (x1 : Int32) (hB : kX10_allGo s x1 = some (r, s')) : BlkI l yX10_allGo wsX10_allGo ({ frames := 6, cells := 0, slots := 0, locals := 152 }) cX10_allGo 4 (some .int) (dC, dI) (tysA cB cI cJ cZ cS) as 0 (wX cB cI cJ cZ cS a b b2 c0 rg sl s) [(0, .ref (c0 0)), (1, .int x1)] [] (fun x u => x = r ∧ u = (wX cB cI cJ cZ cS a b b2 c0 rg sl s')) := by
  intro p e s0 m below meth c A E H locs ls hP hD hS hl
  obtain ⟨C, hr, hlocks, hA, hK, hN⟩ := id E
  obtain ⟨hx, hb, hml, hown, hts⟩ := id C
  unfold kX10_allGo at hB
  refine lv_iload_n hx hb dX10_allGo_0 rfl (lv_at hl 1 rfl) ?_
  refine lv_if_lt (tgt := 9) hx hb dX10_allGo_1 (by decide) (fun c1 => ?_) (fun c1 => ?_)
  · have hB := if_p hB c1
    refine lv_iconst (v := (-1)) hx hb dX10_allGo_9 (by decide) ?_
    exact q_iret C hr hlocks hK hP hD hS (Nat.le_of_ble_eq_true rfl) (Nat.le_of_ble_eq_true rfl) dX10_allGo_10 (by cases hB; exact ⟨rfl, rfl⟩)
  · have hB := if_n hB c1
    refine lv_iload_n hx hb dX10_allGo_4 rfl (lv_at hl 1 rfl) ?_
    refine lv_iconst (v := 2) hx hb dX10_allGo_5 (by decide) ?_
    refine lv_icmp_le (tgt := 11) hx hb dX10_allGo_6 (by decide) (fun c2 => ?_) (fun c2 => ?_)
    · have hB := if_p hB c2
      refine lv_aload_n hx hb dX10_allGo_11 rfl (lv_at hl 0 rfl) ?_
      refine q_get (v := .ref (b2 0)) C inX10_allGo_X10 hK hP 0 rfl rfl 4 (by decide) rfl LX10_allGo_39 rfl dX10_allGo_12 ?_
      refine lv_aload_n hx hb dX10_allGo_15 rfl (lv_at hl 0 rfl) ?_
      refine q_get (v := .ref (b 0)) C inX10_allGo_X10 hK hP 0 rfl rfl 3 (by decide) rfl LX10_allGo_35 rfl dX10_allGo_16 ?_
      obtain ⟨s3, hc, hB⟩ := bindP_inv hB
      refine q_gov (wr := ((wG cZ cS a b b2 c0 rg sl s.g) ++ (wK cB cI cJ cZ cS a s.k))) (va_runVN (As := [.ref (b 0)]) (rest := []) C (ckX6_copyFrom hc _) ⟨va_cnB 1 hts gX10_allGo_X6_copyFrom_n227 rfl rfl rfl (hN _ nwM_X10_227 rfl) (hts _ LX10_allGo_I_X6) (by decide +kernel) ⟨Nat.le_of_ble_eq_true rfl, Nat.le_of_ble_eq_true rfl⟩, hts _ LX10_allGo_N_X6_copyFrom, hts _ LX10_allGo_E_X6_copyFrom⟩ (q_preV hK hP (ci := 6) (q0 := 5) rfl rfl rfl (q_pre hN hK hP hD [11, 12, 13, 14, 15, 16, 5, 6, 7, 8, 9, 10] rfl (by decide))) rfl rfl hl.1 rfl (lv_room (Nat.le_of_ble_eq_true rfl)) dX10_allGo_19 ⟨Nat.le_of_ble_eq_true rfl, Nat.le_of_ble_eq_true rfl⟩) hP hD hS hA [11, 12, 13, 14, 15, 16, 5, 6, 7, 8, 9, 10] [0, 1, 2, 3, 4, 17, 18, 19, 20, 21, 22, 23, 24, 25, 26, 27, 28, 29, 30, 31, 32, 33, 34, 35, 36, 37, 38, 39, 40, 41, 42, 43, 44, 45, 46, 47, 48, 49, 50, 51, 52, 53, 54, 55, 56, 57, 58, 59, 60, 61, 62, 63] rfl rfl (by decide) (by decide) (fun w1 H locs hw hP hD hS => ?_)
      subst hw
      obtain ⟨s4, hs5, hB⟩ := letS_inv hB
      have hP : va_P (dC, dI) vwCl (wX cB cI cJ cZ cS a b b2 c0 rg sl s4) H := by subst hs5; exact hP.sub [0, 1, 2, 3, 4, 58, 59, 60, 61, 62, 63, 52, 53, 54, 55, 56, 57, 5, 6, 7, 8, 9, 10, 11, 12, 13, 14, 15, 16, 17, 18, 19, 20, 21, 22, 23, 24, 25, 26, 27, 28, 29, 30, 31, 32, 33, 34, 35, 36, 37, 38, 39, 40, 41, 42, 43, 44, 45, 46, 47, 48, 49, 50, 51] rfl
      have hD : va_D A (wX cB cI cJ cZ cS a b b2 c0 rg sl s4) := by subst hs5; exact hD.sub [0, 1, 2, 3, 4, 58, 59, 60, 61, 62, 63, 52, 53, 54, 55, 56, 57, 5, 6, 7, 8, 9, 10, 11, 12, 13, 14, 15, 16, 17, 18, 19, 20, 21, 22, 23, 24, 25, 26, 27, 28, 29, 30, 31, 32, 33, 34, 35, 36, 37, 38, 39, 40, 41, 42, 43, 44, 45, 46, 47, 48, 49, 50, 51] (by decide) rfl
      refine lv_iconst (v := 0) hx hb dX10_allGo_22 (by decide) ?_
      refine lv_istore_n (lv' := [(2, .int 0), (0, .ref (c0 0)), (1, .int x1)]) hx hb dX10_allGo_23 rfl hl (by decide) rfl (fun ls hl => ?_)
      exact bkX10_allGo_24L fu _ _ _ hB p e s0 m below meth c A E H locs ls hP hD hS (lv_sub hl [1, 2, 0] rfl)
    · have hB := if_n hB c2
      refine lv_iconst (v := (-1)) hx hb dX10_allGo_9 (by decide) ?_
      exact q_iret C hr hlocks hK hP hD hS (Nat.le_of_ble_eq_true rfl) (Nat.le_of_ble_eq_true rfl) dX10_allGo_10 (by cases hB; exact ⟨rfl, rfl⟩)
theorem ckX10_allGo {l : Launch} {dC : Nat → ClassId} {dI : Nat → Nat → Nat} {cB cI cJ cZ cS : ClassId} {a b b2 c0 : Nat → Nat} {rg sl : Nat → Option Nat} {r : Int32} {s' : XS} {s : XS} {x1 : Int32} (hB : kX10_allGo s x1 = some (r, s')) : CI l yX10_allGo wsX10_allGo ({ frames := 6, cells := 0, slots := 0, locals := 152 }) (dC, dI) (tysA cB cI cJ cZ cS) (wX cB cI cJ cZ cS a b b2 c0 rg sl s) [.ref (c0 0), .int x1] (fun x u => x = r ∧ u = (wX cB cI cJ cZ cS a b b2 c0 rg sl s')) :=
  CI_of (cc := cX10_allGo) (maxL := 4) (ret := (some .int)) (by decide) rfl (Nat.le_of_ble_eq_true rfl) (bkX10_allGo _ _ hB)
