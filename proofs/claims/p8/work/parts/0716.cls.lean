theorem ggX0_passYears_X0_passYearOver : GoodIn wsX0_passYears wsX0_passYearOver := gi_sub (fun w h => List.mem_cons_of_mem _ (List.mem_append_left _ (List.mem_append_left _ (List.mem_append_left _ (List.mem_append_left _ (List.mem_append_right _ h)))))) gd_wsX0_passYearOver
set_option maxRecDepth 20000 in
theorem gX0_passYears_X0_passYearOver : GoodIn wsX0_passYears (wsV RX0 125 RX0 yX0_passYearOver wsX0_passYearOver) := goodIn_app (goodIn_r _ [2, 3, 4, 5] (by decide +kernel) (by decide +kernel)) ggX0_passYears_X0_passYearOver
theorem dX0_passYears_0 : decode cX0_passYears 0 = .ok (.iconst 0, 1) := dc1_3 (by decide +kernel)
theorem dX0_passYears_1 : decode cX0_passYears 1 = .ok (.istore_n 3, 1) := dc1_62 (by decide +kernel)
theorem dX0_passYears_2 : decode cX0_passYears 2 = .ok (.iload_n 3, 1) := dc1_29 (by decide +kernel)
theorem dX0_passYears_3 : decode cX0_passYears 3 = .ok (.iload_n 2, 1) := dc1_28 (by decide +kernel)
theorem dX0_passYears_4 : decode cX0_passYears 4 = .ok (.if_icmp .ge 47, 3) := dcs_162 (n := 47) (by decide +kernel)
theorem dX0_passYears_7 : decode cX0_passYears 7 = .ok (.iconst 0, 1) := dc1_3 (by decide +kernel)
theorem dX0_passYears_8 : decode cX0_passYears 8 = .ok (.istore 4, 2) := dcu_54 (by decide +kernel)
theorem dX0_passYears_10 : decode cX0_passYears 10 = .ok (.iload 4, 2) := dcu_21 (by decide +kernel)
theorem dX0_passYears_12 : decode cX0_passYears 12 = .ok (.aload_n 0, 1) := dc1_42 (by decide +kernel)
theorem dX0_passYears_13 : decode cX0_passYears 13 = .ok (.getfield 9, 3) := dcw_180 (by decide +kernel)
theorem dX0_passYears_16 : decode cX0_passYears 16 = .ok (.getfield 50, 3) := dcw_180 (by decide +kernel)
theorem dX0_passYears_19 : decode cX0_passYears 19 = .ok (.if_icmp .ge 16, 3) := dcs_162 (n := 16) (by decide +kernel)
theorem dX0_passYears_22 : decode cX0_passYears 22 = .ok (.aload_n 0, 1) := dc1_42 (by decide +kernel)
theorem dX0_passYears_23 : decode cX0_passYears 23 = .ok (.aload_n 1, 1) := dc1_43 (by decide +kernel)
theorem dX0_passYears_24 : decode cX0_passYears 24 = .ok (.iload 4, 2) := dcu_21 (by decide +kernel)
theorem dX0_passYears_26 : decode cX0_passYears 26 = .ok (.invokevirtual 125, 3) := dcw_182 (by decide +kernel)
theorem dX0_passYears_29 : decode cX0_passYears 29 = .ok (.iinc 4 1, 3) := dc_iinc (m := 1) (by decide +kernel)
theorem dX0_passYears_32 : decode cX0_passYears 32 = .ok (.goto (-22), 3) := dcs_167 (n := 65514) (by decide +kernel)
theorem dX0_passYears_35 : decode cX0_passYears 35 = .ok (.aload_n 1, 1) := dc1_43 (by decide +kernel)
theorem dX0_passYears_36 : decode cX0_passYears 36 = .ok (.dup, 1) := dc1_89 (by decide +kernel)
theorem dX0_passYears_37 : decode cX0_passYears 37 = .ok (.getfield 59, 3) := dcw_180 (by decide +kernel)
theorem dX0_passYears_40 : decode cX0_passYears 40 = .ok (.iconst 1, 1) := dc1_4 (by decide +kernel)
theorem dX0_passYears_41 : decode cX0_passYears 41 = .ok (.iadd, 1) := dc1_96 (by decide +kernel)
theorem dX0_passYears_42 : decode cX0_passYears 42 = .ok (.putfield 59, 3) := dcw_181 (by decide +kernel)
theorem dX0_passYears_45 : decode cX0_passYears 45 = .ok (.iinc 3 1, 3) := dc_iinc (m := 1) (by decide +kernel)
theorem dX0_passYears_48 : decode cX0_passYears 48 = .ok (.goto (-46), 3) := dcs_167 (n := 65490) (by decide +kernel)
theorem dX0_passYears_51 : decode cX0_passYears 51 = .ok (.return_, 1) := dc1_177 (by decide +kernel)
theorem ggX2_bestGuess_X2_bestThing : GoodIn wsX2_bestGuess wsX2_bestThing := gi_sub (fun w h => List.mem_cons_of_mem _ (List.mem_append_left _ (List.mem_append_left _ (List.mem_append_left _ (List.mem_append_left _ (List.mem_append_left _ (List.mem_append_right _ h))))))) gd_wsX2_bestThing
set_option maxRecDepth 20000 in
theorem gX2_bestGuess_X2_bestThing : GoodIn wsX2_bestGuess (wsV RX2 68 RX2 yX2_bestThing wsX2_bestThing) := goodIn_app (goodIn_r _ [2, 3, 4, 5] (by decide +kernel) (by decide +kernel)) ggX2_bestGuess_X2_bestThing
theorem dX2_bestGuess_0 : decode cX2_bestGuess 0 = .ok (.iconst 0, 1) := dc1_3 (by decide +kernel)
theorem dX2_bestGuess_1 : decode cX2_bestGuess 1 = .ok (.istore_n 3, 1) := dc1_62 (by decide +kernel)
theorem dX2_bestGuess_2 : decode cX2_bestGuess 2 = .ok (.aload_n 0, 1) := dc1_42 (by decide +kernel)
theorem dX2_bestGuess_3 : decode cX2_bestGuess 3 = .ok (.getfield 24, 3) := dcw_180 (by decide +kernel)
theorem dX2_bestGuess_6 : decode cX2_bestGuess 6 = .ok (.getfield 44, 3) := dcw_180 (by decide +kernel)
theorem dX2_bestGuess_9 : decode cX2_bestGuess 9 = .ok (.iconst 1, 1) := dc1_4 (by decide +kernel)
theorem dX2_bestGuess_10 : decode cX2_bestGuess 10 = .ok (.isub, 1) := dc1_100 (by decide +kernel)
theorem dX2_bestGuess_11 : decode cX2_bestGuess 11 = .ok (.istore 4, 2) := dcu_54 (by decide +kernel)
theorem dX2_bestGuess_13 : decode cX2_bestGuess 13 = .ok (.iload 4, 2) := dcu_21 (by decide +kernel)
theorem dX2_bestGuess_15 : decode cX2_bestGuess 15 = .ok (.ifCond .lt 36, 3) := dcs_155 (n := 36) (by decide +kernel)
theorem dX2_bestGuess_18 : decode cX2_bestGuess 18 = .ok (.aload_n 0, 1) := dc1_42 (by decide +kernel)
theorem dX2_bestGuess_19 : decode cX2_bestGuess 19 = .ok (.aload_n 1, 1) := dc1_43 (by decide +kernel)
theorem dX2_bestGuess_20 : decode cX2_bestGuess 20 = .ok (.iload_n 2, 1) := dc1_28 (by decide +kernel)
theorem dX2_bestGuess_21 : decode cX2_bestGuess 21 = .ok (.iload 4, 2) := dcu_21 (by decide +kernel)
theorem dX2_bestGuess_23 : decode cX2_bestGuess 23 = .ok (.invokevirtual 68, 3) := dcw_182 (by decide +kernel)
theorem dX2_bestGuess_26 : decode cX2_bestGuess 26 = .ok (.istore 5, 2) := dcu_54 (by decide +kernel)
theorem dX2_bestGuess_28 : decode cX2_bestGuess 28 = .ok (.iload 5, 2) := dcu_21 (by decide +kernel)
theorem dX2_bestGuess_30 : decode cX2_bestGuess 30 = .ok (.iconst (-1), 1) := dc1_2 (by decide +kernel)
theorem dX2_bestGuess_31 : decode cX2_bestGuess 31 = .ok (.if_icmp .ne 6, 3) := dcs_160 (n := 6) (by decide +kernel)
theorem dX2_bestGuess_34 : decode cX2_bestGuess 34 = .ok (.bipush (-2), 2) := dcb_16 (n := 254) (by decide +kernel)
theorem dX2_bestGuess_36 : decode cX2_bestGuess 36 = .ok (.ireturn, 1) := dc1_172 (by decide +kernel)
theorem dX2_bestGuess_37 : decode cX2_bestGuess 37 = .ok (.iload_n 3, 1) := dc1_29 (by decide +kernel)
theorem dX2_bestGuess_38 : decode cX2_bestGuess 38 = .ok (.bipush 6, 2) := dcb_16 (n := 6) (by decide +kernel)
theorem dX2_bestGuess_40 : decode cX2_bestGuess 40 = .ok (.imul, 1) := dc1_104 (by decide +kernel)
theorem dX2_bestGuess_41 : decode cX2_bestGuess 41 = .ok (.iload 5, 2) := dcu_21 (by decide +kernel)
theorem dX2_bestGuess_43 : decode cX2_bestGuess 43 = .ok (.iadd, 1) := dc1_96 (by decide +kernel)
theorem dX2_bestGuess_44 : decode cX2_bestGuess 44 = .ok (.istore_n 3, 1) := dc1_62 (by decide +kernel)
theorem dX2_bestGuess_45 : decode cX2_bestGuess 45 = .ok (.iinc 4 (-1), 3) := dc_iinc (m := 255) (by decide +kernel)
theorem dX2_bestGuess_48 : decode cX2_bestGuess 48 = .ok (.goto (-35), 3) := dcs_167 (n := 65501) (by decide +kernel)
theorem dX2_bestGuess_51 : decode cX2_bestGuess 51 = .ok (.iload_n 3, 1) := dc1_29 (by decide +kernel)
theorem dX2_bestGuess_52 : decode cX2_bestGuess 52 = .ok (.ireturn, 1) := dc1_172 (by decide +kernel)
theorem ggX10_dearest_X0_fareOf : GoodIn wsX10_dearest wsX0_fareOf := gi_sub (fun w h => List.mem_cons_of_mem _ (List.mem_append_left _ (List.mem_append_left _ (List.mem_append_left _ (List.mem_append_left _ (List.mem_append_left _ (List.mem_append_right _ h))))))) gd_wsX0_fareOf
set_option maxRecDepth 20000 in
theorem gX10_dearest_X0_fareOf_n153 : GoodIn wsX10_dearest (wsX0_fareOf) := ggX10_dearest_X0_fareOf
theorem dX10_dearest_0 : decode cX10_dearest 0 = .ok (.iload_n 1, 1) := dc1_27 (by decide +kernel)
theorem dX10_dearest_1 : decode cX10_dearest 1 = .ok (.ifCond .eq 10, 3) := dcs_153 (n := 10) (by decide +kernel)
theorem dX10_dearest_4 : decode cX10_dearest 4 = .ok (.iload_n 1, 1) := dc1_27 (by decide +kernel)
theorem dX10_dearest_5 : decode cX10_dearest 5 = .ok (.iconst 1, 1) := dc1_4 (by decide +kernel)
theorem dX10_dearest_6 : decode cX10_dearest 6 = .ok (.if_icmp .eq 5, 3) := dcs_159 (n := 5) (by decide +kernel)
theorem dX10_dearest_9 : decode cX10_dearest 9 = .ok (.iconst (-1), 1) := dc1_2 (by decide +kernel)
theorem dX10_dearest_10 : decode cX10_dearest 10 = .ok (.ireturn, 1) := dc1_172 (by decide +kernel)
theorem dX10_dearest_11 : decode cX10_dearest 11 = .ok (.bipush (-2), 2) := dcb_16 (n := 254) (by decide +kernel)
theorem dX10_dearest_13 : decode cX10_dearest 13 = .ok (.istore_n 2, 1) := dc1_61 (by decide +kernel)
theorem dX10_dearest_14 : decode cX10_dearest 14 = .ok (.bipush (-2), 2) := dcb_16 (n := 254) (by decide +kernel)
theorem dX10_dearest_16 : decode cX10_dearest 16 = .ok (.istore_n 3, 1) := dc1_62 (by decide +kernel)
theorem dX10_dearest_17 : decode cX10_dearest 17 = .ok (.iconst 0, 1) := dc1_3 (by decide +kernel)
theorem dX10_dearest_18 : decode cX10_dearest 18 = .ok (.istore 4, 2) := dcu_54 (by decide +kernel)
theorem dX10_dearest_20 : decode cX10_dearest 20 = .ok (.iload 4, 2) := dcu_21 (by decide +kernel)
theorem dX10_dearest_22 : decode cX10_dearest 22 = .ok (.aload_n 0, 1) := dc1_42 (by decide +kernel)
theorem dX10_dearest_23 : decode cX10_dearest 23 = .ok (.getfield 19, 3) := dcw_180 (by decide +kernel)
theorem dX10_dearest_26 : decode cX10_dearest 26 = .ok (.getfield 235, 3) := dcw_180 (by decide +kernel)
theorem dX10_dearest_29 : decode cX10_dearest 29 = .ok (.if_icmp .ge 36, 3) := dcs_162 (n := 36) (by decide +kernel)
theorem dX10_dearest_32 : decode cX10_dearest 32 = .ok (.aload_n 0, 1) := dc1_42 (by decide +kernel)
theorem dX10_dearest_33 : decode cX10_dearest 33 = .ok (.getfield 54, 3) := dcw_180 (by decide +kernel)
theorem dX10_dearest_36 : decode cX10_dearest 36 = .ok (.aload_n 0, 1) := dc1_42 (by decide +kernel)
theorem dX10_dearest_37 : decode cX10_dearest 37 = .ok (.getfield 35, 3) := dcw_180 (by decide +kernel)
theorem dX10_dearest_40 : decode cX10_dearest 40 = .ok (.iload 4, 2) := dcu_21 (by decide +kernel)
theorem dX10_dearest_42 : decode cX10_dearest 42 = .ok (.invokevirtual 153, 3) := dcw_182 (by decide +kernel)
theorem dX10_dearest_45 : decode cX10_dearest 45 = .ok (.istore 5, 2) := dcu_54 (by decide +kernel)
theorem dX10_dearest_47 : decode cX10_dearest 47 = .ok (.iload 5, 2) := dcu_21 (by decide +kernel)
theorem dX10_dearest_49 : decode cX10_dearest 49 = .ok (.iload_n 3, 1) := dc1_29 (by decide +kernel)
theorem dX10_dearest_50 : decode cX10_dearest 50 = .ok (.if_icmp .le 9, 3) := dcs_164 (n := 9) (by decide +kernel)
theorem dX10_dearest_53 : decode cX10_dearest 53 = .ok (.iload 5, 2) := dcu_21 (by decide +kernel)
theorem dX10_dearest_55 : decode cX10_dearest 55 = .ok (.istore_n 3, 1) := dc1_62 (by decide +kernel)
theorem dX10_dearest_56 : decode cX10_dearest 56 = .ok (.iload 4, 2) := dcu_21 (by decide +kernel)
theorem dX10_dearest_58 : decode cX10_dearest 58 = .ok (.istore_n 2, 1) := dc1_61 (by decide +kernel)
theorem dX10_dearest_59 : decode cX10_dearest 59 = .ok (.iinc 4 1, 3) := dc_iinc (m := 1) (by decide +kernel)
theorem dX10_dearest_62 : decode cX10_dearest 62 = .ok (.goto (-42), 3) := dcs_167 (n := 65494) (by decide +kernel)
theorem dX10_dearest_65 : decode cX10_dearest 65 = .ok (.iload_n 1, 1) := dc1_27 (by decide +kernel)
theorem dX10_dearest_66 : decode cX10_dearest 66 = .ok (.ifCond .ne 7, 3) := dcs_154 (n := 7) (by decide +kernel)
theorem dX10_dearest_69 : decode cX10_dearest 69 = .ok (.iload_n 2, 1) := dc1_28 (by decide +kernel)
theorem dX10_dearest_70 : decode cX10_dearest 70 = .ok (.goto 4, 3) := dcs_167 (n := 4) (by decide +kernel)
theorem dX10_dearest_73 : decode cX10_dearest 73 = .ok (.iload_n 3, 1) := dc1_29 (by decide +kernel)
theorem dX10_dearest_74 : decode cX10_dearest 74 = .ok (.ireturn, 1) := dc1_172 (by decide +kernel)
theorem ggX10_darers_X0_isDaring : GoodIn wsX10_darers wsX0_isDaring := gi_sub (fun w h => List.mem_cons_of_mem _ (List.mem_append_left _ (List.mem_append_left _ (List.mem_append_left _ (List.mem_append_left _ (List.mem_append_left _ (List.mem_append_right _ h))))))) gd_wsX0_isDaring
set_option maxRecDepth 20000 in
theorem gX10_darers_X0_isDaring_n156 : GoodIn wsX10_darers (wsX0_isDaring) := ggX10_darers_X0_isDaring
theorem dX10_darers_0 : decode cX10_darers 0 = .ok (.iconst 0, 1) := dc1_3 (by decide +kernel)
theorem dX10_darers_1 : decode cX10_darers 1 = .ok (.istore_n 1, 1) := dc1_60 (by decide +kernel)
theorem dX10_darers_2 : decode cX10_darers 2 = .ok (.iconst 0, 1) := dc1_3 (by decide +kernel)
theorem dX10_darers_3 : decode cX10_darers 3 = .ok (.istore_n 2, 1) := dc1_61 (by decide +kernel)
theorem dX10_darers_4 : decode cX10_darers 4 = .ok (.iload_n 2, 1) := dc1_28 (by decide +kernel)
theorem dX10_darers_5 : decode cX10_darers 5 = .ok (.aload_n 0, 1) := dc1_42 (by decide +kernel)
theorem dX10_darers_6 : decode cX10_darers 6 = .ok (.getfield 19, 3) := dcw_180 (by decide +kernel)
theorem dX10_darers_9 : decode cX10_darers 9 = .ok (.getfield 235, 3) := dcw_180 (by decide +kernel)
theorem dX10_darers_12 : decode cX10_darers 12 = .ok (.if_icmp .ge 42, 3) := dcs_162 (n := 42) (by decide +kernel)
theorem dX10_darers_15 : decode cX10_darers 15 = .ok (.aload_n 0, 1) := dc1_42 (by decide +kernel)
theorem dX10_darers_16 : decode cX10_darers 16 = .ok (.getfield 35, 3) := dcw_180 (by decide +kernel)
theorem dX10_darers_19 : decode cX10_darers 19 = .ok (.getfield 147, 3) := dcw_180 (by decide +kernel)
theorem dX10_darers_22 : decode cX10_darers 22 = .ok (.iload_n 2, 1) := dc1_28 (by decide +kernel)
theorem dX10_darers_23 : decode cX10_darers 23 = .ok (.iaload, 1) := dc1_46 (by decide +kernel)
theorem dX10_darers_24 : decode cX10_darers 24 = .ok (.ifCond .ne 24, 3) := dcs_154 (n := 24) (by decide +kernel)
theorem dX10_darers_27 : decode cX10_darers 27 = .ok (.aload_n 0, 1) := dc1_42 (by decide +kernel)
theorem dX10_darers_28 : decode cX10_darers 28 = .ok (.getfield 54, 3) := dcw_180 (by decide +kernel)
theorem dX10_darers_31 : decode cX10_darers 31 = .ok (.aload_n 0, 1) := dc1_42 (by decide +kernel)
theorem dX10_darers_32 : decode cX10_darers 32 = .ok (.getfield 35, 3) := dcw_180 (by decide +kernel)
theorem dX10_darers_35 : decode cX10_darers 35 = .ok (.iload_n 2, 1) := dc1_28 (by decide +kernel)
theorem dX10_darers_36 : decode cX10_darers 36 = .ok (.invokevirtual 156, 3) := dcw_182 (by decide +kernel)
theorem dX10_darers_39 : decode cX10_darers 39 = .ok (.ifCond .eq 9, 3) := dcs_153 (n := 9) (by decide +kernel)
theorem dX10_darers_42 : decode cX10_darers 42 = .ok (.iload_n 1, 1) := dc1_27 (by decide +kernel)
theorem dX10_darers_43 : decode cX10_darers 43 = .ok (.iconst 1, 1) := dc1_4 (by decide +kernel)
theorem dX10_darers_44 : decode cX10_darers 44 = .ok (.iload_n 2, 1) := dc1_28 (by decide +kernel)
theorem dX10_darers_45 : decode cX10_darers 45 = .ok (.ishl, 1) := dc1_120 (by decide +kernel)
theorem dX10_darers_46 : decode cX10_darers 46 = .ok (.ior, 1) := dc1_128 (by decide +kernel)
theorem dX10_darers_47 : decode cX10_darers 47 = .ok (.istore_n 1, 1) := dc1_60 (by decide +kernel)
theorem dX10_darers_48 : decode cX10_darers 48 = .ok (.iinc 2 1, 3) := dc_iinc (m := 1) (by decide +kernel)
theorem dX10_darers_51 : decode cX10_darers 51 = .ok (.goto (-47), 3) := dcs_167 (n := 65489) (by decide +kernel)
theorem dX10_darers_54 : decode cX10_darers 54 = .ok (.iload_n 1, 1) := dc1_27 (by decide +kernel)
theorem dX10_darers_55 : decode cX10_darers 55 = .ok (.ireturn, 1) := dc1_172 (by decide +kernel)
theorem ggX10_year_X5_hasGuess : GoodIn wsX10_year wsX5_hasGuess := gi_sub (fun w h => List.mem_cons_of_mem _ (List.mem_append_left _ (List.mem_append_left _ (List.mem_append_left _ (List.mem_append_left _ (List.mem_append_right _ (List.mem_append_left _ h))))))) gd_wsX5_hasGuess
set_option maxRecDepth 20000 in
theorem gX10_year_X5_hasGuess_n170 : GoodIn wsX10_year (wsX5_hasGuess) := ggX10_year_X5_hasGuess
theorem ggX10_year_X0_guessThere : GoodIn wsX10_year wsX0_guessThere := gi_sub (fun w h => List.mem_cons_of_mem _ (List.mem_append_left _ (List.mem_append_left _ (List.mem_append_left _ (List.mem_append_left _ (List.mem_append_right _ (List.mem_append_right _ h))))))) gd_wsX0_guessThere
set_option maxRecDepth 20000 in
theorem gX10_year_X0_guessThere_n256 : GoodIn wsX10_year (wsX0_guessThere) := ggX10_year_X0_guessThere
theorem dX10_year_0 : decode cX10_year 0 = .ok (.aload_n 0, 1) := dc1_42 (by decide +kernel)
theorem dX10_year_1 : decode cX10_year 1 = .ok (.getfield 19, 3) := dcw_180 (by decide +kernel)
theorem dX10_year_4 : decode cX10_year 4 = .ok (.iload_n 1, 1) := dc1_27 (by decide +kernel)
theorem dX10_year_5 : decode cX10_year 5 = .ok (.invokevirtual 170, 3) := dcw_182 (by decide +kernel)
theorem dX10_year_8 : decode cX10_year 8 = .ok (.ifCond .eq 14, 3) := dcs_153 (n := 14) (by decide +kernel)
theorem dX10_year_11 : decode cX10_year 11 = .ok (.iload_n 2, 1) := dc1_28 (by decide +kernel)
theorem dX10_year_12 : decode cX10_year 12 = .ok (.iconst 1, 1) := dc1_4 (by decide +kernel)
theorem dX10_year_13 : decode cX10_year 13 = .ok (.if_icmp .lt 9, 3) := dcs_161 (n := 9) (by decide +kernel)
theorem dX10_year_16 : decode cX10_year 16 = .ok (.iload_n 2, 1) := dc1_28 (by decide +kernel)
theorem dX10_year_17 : decode cX10_year 17 = .ok (.bipush 20, 2) := dcb_16 (n := 20) (by decide +kernel)
theorem dX10_year_19 : decode cX10_year 19 = .ok (.if_icmp .le 5, 3) := dcs_164 (n := 5) (by decide +kernel)
theorem dX10_year_22 : decode cX10_year 22 = .ok (.iconst (-1), 1) := dc1_2 (by decide +kernel)
theorem dX10_year_23 : decode cX10_year 23 = .ok (.ireturn, 1) := dc1_172 (by decide +kernel)
theorem dX10_year_24 : decode cX10_year 24 = .ok (.iconst 0, 1) := dc1_3 (by decide +kernel)
theorem dX10_year_25 : decode cX10_year 25 = .ok (.istore_n 3, 1) := dc1_62 (by decide +kernel)
theorem dX10_year_26 : decode cX10_year 26 = .ok (.iconst 0, 1) := dc1_3 (by decide +kernel)
theorem dX10_year_27 : decode cX10_year 27 = .ok (.istore 4, 2) := dcu_54 (by decide +kernel)
theorem dX10_year_29 : decode cX10_year 29 = .ok (.iload 4, 2) := dcu_21 (by decide +kernel)
theorem dX10_year_31 : decode cX10_year 31 = .ok (.iload_n 2, 1) := dc1_28 (by decide +kernel)
theorem dX10_year_32 : decode cX10_year 32 = .ok (.if_icmp .ge 37, 3) := dcs_162 (n := 37) (by decide +kernel)
theorem dX10_year_35 : decode cX10_year 35 = .ok (.aload_n 0, 1) := dc1_42 (by decide +kernel)
theorem dX10_year_36 : decode cX10_year 36 = .ok (.getfield 54, 3) := dcw_180 (by decide +kernel)
theorem dX10_year_39 : decode cX10_year 39 = .ok (.aload_n 0, 1) := dc1_42 (by decide +kernel)
theorem dX10_year_40 : decode cX10_year 40 = .ok (.getfield 35, 3) := dcw_180 (by decide +kernel)
theorem dX10_year_43 : decode cX10_year 43 = .ok (.aload_n 0, 1) := dc1_42 (by decide +kernel)
theorem dX10_year_44 : decode cX10_year 44 = .ok (.getfield 19, 3) := dcw_180 (by decide +kernel)
theorem dX10_year_47 : decode cX10_year 47 = .ok (.getfield 253, 3) := dcw_180 (by decide +kernel)
theorem dX10_year_50 : decode cX10_year 50 = .ok (.iload 4, 2) := dcu_21 (by decide +kernel)
theorem dX10_year_52 : decode cX10_year 52 = .ok (.iadd, 1) := dc1_96 (by decide +kernel)
theorem dX10_year_53 : decode cX10_year 53 = .ok (.invokevirtual 256, 3) := dcw_182 (by decide +kernel)
theorem dX10_year_56 : decode cX10_year 56 = .ok (.iload_n 1, 1) := dc1_27 (by decide +kernel)
theorem dX10_year_57 : decode cX10_year 57 = .ok (.if_icmp .ne 6, 3) := dcs_160 (n := 6) (by decide +kernel)
theorem dX10_year_60 : decode cX10_year 60 = .ok (.iinc 3 1, 3) := dc_iinc (m := 1) (by decide +kernel)
theorem dX10_year_63 : decode cX10_year 63 = .ok (.iinc 4 1, 3) := dc_iinc (m := 1) (by decide +kernel)
theorem dX10_year_66 : decode cX10_year 66 = .ok (.goto (-37), 3) := dcs_167 (n := 65499) (by decide +kernel)
theorem dX10_year_69 : decode cX10_year 69 = .ok (.iload_n 3, 1) := dc1_29 (by decide +kernel)
theorem dX10_year_70 : decode cX10_year 70 = .ok (.ireturn, 1) := dc1_172 (by decide +kernel)
theorem ggX10_faresOfAllHere_X0_fareOf : GoodIn wsX10_faresOfAllHere wsX0_fareOf := gi_sub (fun w h => List.mem_cons_of_mem _ (List.mem_append_left _ (List.mem_append_left _ (List.mem_append_left _ (List.mem_append_left _ (List.mem_append_left _ (List.mem_append_right _ h))))))) gd_wsX0_fareOf
set_option maxRecDepth 20000 in
theorem gX10_faresOfAllHere_X0_fareOf_n153 : GoodIn wsX10_faresOfAllHere (wsX0_fareOf) := ggX10_faresOfAllHere_X0_fareOf
theorem dX10_faresOfAllHere_0 : decode cX10_faresOfAllHere 0 = .ok (.iconst 0, 1) := dc1_3 (by decide +kernel)
theorem dX10_faresOfAllHere_1 : decode cX10_faresOfAllHere 1 = .ok (.istore_n 1, 1) := dc1_60 (by decide +kernel)
theorem dX10_faresOfAllHere_2 : decode cX10_faresOfAllHere 2 = .ok (.iconst 0, 1) := dc1_3 (by decide +kernel)
theorem dX10_faresOfAllHere_3 : decode cX10_faresOfAllHere 3 = .ok (.istore_n 2, 1) := dc1_61 (by decide +kernel)
theorem dX10_faresOfAllHere_4 : decode cX10_faresOfAllHere 4 = .ok (.iload_n 2, 1) := dc1_28 (by decide +kernel)
theorem dX10_faresOfAllHere_5 : decode cX10_faresOfAllHere 5 = .ok (.aload_n 0, 1) := dc1_42 (by decide +kernel)
theorem dX10_faresOfAllHere_6 : decode cX10_faresOfAllHere 6 = .ok (.getfield 19, 3) := dcw_180 (by decide +kernel)
theorem dX10_faresOfAllHere_9 : decode cX10_faresOfAllHere 9 = .ok (.getfield 235, 3) := dcw_180 (by decide +kernel)
theorem dX10_faresOfAllHere_12 : decode cX10_faresOfAllHere 12 = .ok (.if_icmp .ge 36, 3) := dcs_162 (n := 36) (by decide +kernel)
theorem dX10_faresOfAllHere_15 : decode cX10_faresOfAllHere 15 = .ok (.aload_n 0, 1) := dc1_42 (by decide +kernel)
theorem dX10_faresOfAllHere_16 : decode cX10_faresOfAllHere 16 = .ok (.getfield 35, 3) := dcw_180 (by decide +kernel)
theorem dX10_faresOfAllHere_19 : decode cX10_faresOfAllHere 19 = .ok (.getfield 147, 3) := dcw_180 (by decide +kernel)
theorem dX10_faresOfAllHere_22 : decode cX10_faresOfAllHere 22 = .ok (.iload_n 2, 1) := dc1_28 (by decide +kernel)
theorem dX10_faresOfAllHere_23 : decode cX10_faresOfAllHere 23 = .ok (.iaload, 1) := dc1_46 (by decide +kernel)
theorem dX10_faresOfAllHere_24 : decode cX10_faresOfAllHere 24 = .ok (.ifCond .ne 18, 3) := dcs_154 (n := 18) (by decide +kernel)
theorem dX10_faresOfAllHere_27 : decode cX10_faresOfAllHere 27 = .ok (.iload_n 1, 1) := dc1_27 (by decide +kernel)
theorem dX10_faresOfAllHere_28 : decode cX10_faresOfAllHere 28 = .ok (.aload_n 0, 1) := dc1_42 (by decide +kernel)
theorem dX10_faresOfAllHere_29 : decode cX10_faresOfAllHere 29 = .ok (.getfield 54, 3) := dcw_180 (by decide +kernel)
theorem dX10_faresOfAllHere_32 : decode cX10_faresOfAllHere 32 = .ok (.aload_n 0, 1) := dc1_42 (by decide +kernel)
theorem dX10_faresOfAllHere_33 : decode cX10_faresOfAllHere 33 = .ok (.getfield 35, 3) := dcw_180 (by decide +kernel)
theorem dX10_faresOfAllHere_36 : decode cX10_faresOfAllHere 36 = .ok (.iload_n 2, 1) := dc1_28 (by decide +kernel)
theorem dX10_faresOfAllHere_37 : decode cX10_faresOfAllHere 37 = .ok (.invokevirtual 153, 3) := dcw_182 (by decide +kernel)
theorem dX10_faresOfAllHere_40 : decode cX10_faresOfAllHere 40 = .ok (.iadd, 1) := dc1_96 (by decide +kernel)
theorem dX10_faresOfAllHere_41 : decode cX10_faresOfAllHere 41 = .ok (.istore_n 1, 1) := dc1_60 (by decide +kernel)
theorem dX10_faresOfAllHere_42 : decode cX10_faresOfAllHere 42 = .ok (.iinc 2 1, 3) := dc_iinc (m := 1) (by decide +kernel)
theorem dX10_faresOfAllHere_45 : decode cX10_faresOfAllHere 45 = .ok (.goto (-41), 3) := dcs_167 (n := 65495) (by decide +kernel)
theorem dX10_faresOfAllHere_48 : decode cX10_faresOfAllHere 48 = .ok (.iload_n 1, 1) := dc1_27 (by decide +kernel)
theorem dX10_faresOfAllHere_49 : decode cX10_faresOfAllHere 49 = .ok (.ireturn, 1) := dc1_172 (by decide +kernel)
theorem LX10_dearest_19 : Cond.fieldLink RX10 19 "GuessFerry" "sound" "LGuessFerry$Sound;" ∈ wsX10_dearest := by decide +kernel
theorem LX10_dearest_35 : Cond.fieldLink RX10 35 "GuessFerry" "now" "LGuessFerry$Standing;" ∈ wsX10_dearest := by decide +kernel
theorem LX10_dearest_54 : Cond.fieldLink RX10 54 "GuessFerry" "crossing" "LGuessFerry$Crossing;" ∈ wsX10_dearest := by decide +kernel
theorem LX10_dearest_E_X0_fareOf : Cond.selects RX0 yX0_fareOf yX0_fareOf ∈ wsX10_dearest := by decide +kernel
theorem LX10_dearest_I_X0 : Cond.initialized RX0 ∈ wsX10_dearest := by decide +kernel
theorem LX10_dearest_N_X0_fareOf : Cond.instanceMethod yX0_fareOf ∈ wsX10_dearest := by decide +kernel
theorem inX10_dearest_X10 : ∀ w ∈ u_ws RX10 TX10 9, w ∈ wsX10_dearest := by decide +kernel
theorem inX10_dearest_X5 : ∀ w ∈ u_ws RX5 TX5 10, w ∈ wsX10_dearest := by decide +kernel
set_option maxHeartbeats 4000000 in
set_option maxRecDepth 100000 in
theorem bkX10_dearest_59 {l : Launch} {dC : Nat → ClassId} {dI : Nat → Nat → Nat} {cB cI cJ cZ cS : ClassId} {a b b2 c0 : Nat → Nat} {rg sl : Nat → Option Nat} {as : List Value} {r : Int32} {s' : XS} {k20 : XS → Int32 → Int32 → Int32 → Int32 → Option (Int32 × XS)} (hk20 : ∀ (s : XS) (x1 : Int32) (x2 : Int32) (x3 : Int32) (x4 : Int32), k20 s x1 x2 x3 x4 = some (r, s') → BlkI l yX10_dearest wsX10_dearest ({ frames := 4, cells := 0, slots := 0, locals := 98 }) cX10_dearest 6 (some .int) (dC, dI) (tysA cB cI cJ cZ cS) as 20 (wX cB cI cJ cZ cS a b b2 c0 rg sl s) [(0, .ref (c0 0)), (1, .int x1), (2, .int x2), (3, .int x3), (4, .int x4)] [] (fun x u => x = r ∧ u = (wX cB cI cJ cZ cS a b b2 c0 rg sl s'))) (s : XS) (x1 : Int32) (x2 : Int32) (x3 : Int32) (x4 : Int32) (hB : kX10_dearest_59 k20 s x1 x2 x3 x4 = some (r, s')) : BlkI l yX10_dearest wsX10_dearest ({ frames := 4, cells := 0, slots := 0, locals := 98 }) cX10_dearest 6 (some .int) (dC, dI) (tysA cB cI cJ cZ cS) as 59 (wX cB cI cJ cZ cS a b b2 c0 rg sl s) [(0, .ref (c0 0)), (1, .int x1), (2, .int x2), (3, .int x3), (4, .int x4)] [] (fun x u => x = r ∧ u = (wX cB cI cJ cZ cS a b b2 c0 rg sl s')) := by
  intro p e s0 m below meth c A E H locs ls hP hD hS hl
  obtain ⟨C, hr, hlocks, hA, hK, hN⟩ := id E
  obtain ⟨hx, hb, hml, hown, hts⟩ := id C
  unfold kX10_dearest_59 at hB
  refine lv_iinc (v := (x4 + 1)) (lv' := [(4, .int (x4 + 1)), (0, .ref (c0 0)), (1, .int x1), (2, .int x2), (3, .int x3)]) hx hb dX10_dearest_59 hl (k := 4) rfl (rfl) (by decide) rfl (fun ls hl => ?_)
  refine lv_goto (tgt := 20) hx hb dX10_dearest_62 (by decide) ?_
  exact hk20 _ _ _ _ _ hB p e s0 m below meth c A E H locs ls hP hD hS (lv_sub hl [1, 2, 3, 4, 0] rfl)
set_option maxHeartbeats 4000000 in
set_option maxRecDepth 100000 in
theorem bkX10_dearest_20 {l : Launch} {dC : Nat → ClassId} {dI : Nat → Nat → Nat} {cB cI cJ cZ cS : ClassId} {a b b2 c0 : Nat → Nat} {rg sl : Nat → Option Nat} {as : List Value} {r : Int32} {s' : XS} {k20 : XS → Int32 → Int32 → Int32 → Int32 → Option (Int32 × XS)} (hk20 : ∀ (s : XS) (x1 : Int32) (x2 : Int32) (x3 : Int32) (x4 : Int32), k20 s x1 x2 x3 x4 = some (r, s') → BlkI l yX10_dearest wsX10_dearest ({ frames := 4, cells := 0, slots := 0, locals := 98 }) cX10_dearest 6 (some .int) (dC, dI) (tysA cB cI cJ cZ cS) as 20 (wX cB cI cJ cZ cS a b b2 c0 rg sl s) [(0, .ref (c0 0)), (1, .int x1), (2, .int x2), (3, .int x3), (4, .int x4)] [] (fun x u => x = r ∧ u = (wX cB cI cJ cZ cS a b b2 c0 rg sl s'))) (s : XS) (x1 : Int32) (x2 : Int32) (x3 : Int32) (x4 : Int32) (hB : kX10_dearest_20 k20 s x1 x2 x3 x4 = some (r, s')) : BlkI l yX10_dearest wsX10_dearest ({ frames := 4, cells := 0, slots := 0, locals := 98 }) cX10_dearest 6 (some .int) (dC, dI) (tysA cB cI cJ cZ cS) as 20 (wX cB cI cJ cZ cS a b b2 c0 rg sl s) [(0, .ref (c0 0)), (1, .int x1), (2, .int x2), (3, .int x3), (4, .int x4)] [] (fun x u => x = r ∧ u = (wX cB cI cJ cZ cS a b b2 c0 rg sl s')) := by
  intro p e s0 m below meth c A E H locs ls hP hD hS hl
  obtain ⟨C, hr, hlocks, hA, hK, hN⟩ := id E
  obtain ⟨hx, hb, hml, hown, hts⟩ := id C
  unfold kX10_dearest_20 at hB
  refine lv_iload hx hb dX10_dearest_20 (lv_at hl 4 rfl) ?_
  refine lv_aload_n hx hb dX10_dearest_22 rfl (lv_at hl 0 rfl) ?_
  refine q_get (v := .ref (a 2)) C inX10_dearest_X10 hK hP 0 rfl rfl 1 (by decide) rfl LX10_dearest_19 rfl dX10_dearest_23 ?_
  refine q_getN (v := .int (s.k.v 2)) C hN inX10_dearest_X5 hK hP 19 rfl rfl 7 (by decide) rfl nwF_X10_235 rfl dX10_dearest_26 ?_
  refine lv_icmp_ge (tgt := 65) hx hb dX10_dearest_29 (by decide) (fun c1 => ?_) (fun c1 => ?_)
  · have hB := if_p hB c1
    refine lv_iload_n hx hb dX10_dearest_65 rfl (lv_at hl 1 rfl) ?_
    refine lv_if_ne (tgt := 73) hx hb dX10_dearest_66 (by decide) (fun c2 => ?_) (fun c2 => ?_)
    · have hB := if_n hB c2
      refine lv_iload_n hx hb dX10_dearest_73 rfl (lv_at hl 3 rfl) ?_
      exact q_iret C hr hlocks hK hP hD hS (Nat.le_of_ble_eq_true rfl) (Nat.le_of_ble_eq_true rfl) dX10_dearest_74 (by cases hB; exact ⟨rfl, rfl⟩)
    · have hB := if_p hB c2
      refine lv_iload_n hx hb dX10_dearest_69 rfl (lv_at hl 2 rfl) ?_
      refine lv_goto (tgt := 74) hx hb dX10_dearest_70 (by decide) ?_
      exact q_iret C hr hlocks hK hP hD hS (Nat.le_of_ble_eq_true rfl) (Nat.le_of_ble_eq_true rfl) dX10_dearest_74 (by cases hB; exact ⟨rfl, rfl⟩)
  · have hB := if_n hB c1
    refine lv_aload_n hx hb dX10_dearest_32 rfl (lv_at hl 0 rfl) ?_
    refine q_get (v := .ref (a 35)) C inX10_dearest_X10 hK hP 0 rfl rfl 6 (by decide) rfl LX10_dearest_54 rfl dX10_dearest_33 ?_
    refine lv_aload_n hx hb dX10_dearest_36 rfl (lv_at hl 0 rfl) ?_
    refine q_get (v := .ref (b 0)) C inX10_dearest_X10 hK hP 0 rfl rfl 3 (by decide) rfl LX10_dearest_35 rfl dX10_dearest_37 ?_
    refine lv_iload hx hb dX10_dearest_40 (lv_at hl 4 rfl) ?_
    obtain ⟨q_, s3, hc, hB⟩ := bindI_inv hB
    refine q_goi (wr := ((wG cZ cS a b b2 c0 rg sl s.g) ++ (wD cI b2 s.t))) (va_runVN (As := [.ref (b 0), .int x4]) (rest := []) C (ckX0_fareOf hc _) ⟨va_cnB 2 hts gX10_dearest_X0_fareOf_n153 rfl rfl rfl (hN _ nwM_X10_153 rfl) (hts _ LX10_dearest_I_X0) (by decide +kernel) ⟨Nat.le_of_ble_eq_true rfl, Nat.le_of_ble_eq_true rfl⟩, hts _ LX10_dearest_N_X0_fareOf, hts _ LX10_dearest_E_X0_fareOf⟩ (q_preV hK hP (ci := 0) (q0 := 52) rfl rfl rfl (q_pre hN hK hP hD [11, 12, 13, 14, 15, 16, 17, 18, 19, 20, 21, 22, 23, 24, 25, 26, 27, 28, 29, 30, 31, 32, 33, 34, 35, 36, 37, 38, 39, 40, 41, 42, 43, 44, 45, 46, 47, 48, 49, 50, 51, 52, 53, 54, 55, 56, 57, 58, 59, 60, 61, 62, 63] rfl (by decide))) rfl rfl hl.1 rfl (lv_room (Nat.le_of_ble_eq_true rfl)) dX10_dearest_42 ⟨Nat.le_of_ble_eq_true rfl, Nat.le_of_ble_eq_true rfl⟩) hP hD hS hA [11, 12, 13, 14, 15, 16, 17, 18, 19, 20, 21, 22, 23, 24, 25, 26, 27, 28, 29, 30, 31, 32, 33, 34, 35, 36, 37, 38, 39, 40, 41, 42, 43, 44, 45, 46, 47, 48, 49, 50, 51, 52, 53, 54, 55, 56, 57, 58, 59, 60, 61, 62, 63] [0, 1, 2, 3, 4, 5, 6, 7, 8, 9, 10] rfl rfl (by decide) (by decide) (fun r4 w1 H locs hw hP hD hS => ?_)
    obtain ⟨hq_, hw⟩ := hw; subst hw; subst hq_
    obtain ⟨s5, hs6, hB⟩ := letS_inv hB
    have hP : va_P (dC, dI) vwCl (wX cB cI cJ cZ cS a b b2 c0 rg sl s5) H := by subst hs6; exact hP
    have hD : va_D A (wX cB cI cJ cZ cS a b b2 c0 rg sl s5) := by subst hs6; exact hD
    refine lv_istore (lv' := [(5, .int r4), (0, .ref (c0 0)), (1, .int x1), (2, .int x2), (3, .int x3), (4, .int x4)]) hx hb dX10_dearest_45 hl (by decide) rfl (fun ls hl => ?_)
    refine lv_iload hx hb dX10_dearest_47 (lv_at hl 0 rfl) ?_
    refine lv_iload_n hx hb dX10_dearest_49 rfl (lv_at hl 4 rfl) ?_
    refine lv_icmp_le (tgt := 59) hx hb dX10_dearest_50 (by decide) (fun c7 => ?_) (fun c7 => ?_)
    · have hB := if_p hB c7
      exact bkX10_dearest_59 (hk20) _ _ _ _ _ hB p e s0 m below meth c A E H locs ls hP hD hS (lv_sub hl [1, 2, 3, 4, 5] rfl)
    · have hB := if_n hB c7
      refine lv_iload hx hb dX10_dearest_53 (lv_at hl 0 rfl) ?_
      refine lv_istore_n (lv' := [(3, .int r4), (5, .int r4), (0, .ref (c0 0)), (1, .int x1), (2, .int x2), (4, .int x4)]) hx hb dX10_dearest_55 rfl hl (by decide) rfl (fun ls hl => ?_)
      refine lv_iload hx hb dX10_dearest_56 (lv_at hl 5 rfl) ?_
      refine lv_istore_n (lv' := [(2, .int x4), (3, .int r4), (5, .int r4), (0, .ref (c0 0)), (1, .int x1), (4, .int x4)]) hx hb dX10_dearest_58 rfl hl (by decide) rfl (fun ls hl => ?_)
      exact bkX10_dearest_59 (hk20) _ _ _ _ _ hB p e s0 m below meth c A E H locs ls hP hD hS (lv_sub hl [3, 4, 0, 1, 5] rfl)
theorem bkX10_dearest_20L {l : Launch} {dC : Nat → ClassId} {dI : Nat → Nat → Nat} {cB cI cJ cZ cS : ClassId} {a b b2 c0 : Nat → Nat} {rg sl : Nat → Option Nat} {as : List Value} {r : Int32} {s' : XS} : ∀ (n : Nat) (s : XS) (x1 : Int32) (x2 : Int32) (x3 : Int32) (x4 : Int32), kX10_dearest_20L n s x1 x2 x3 x4 = some (r, s') → BlkI l yX10_dearest wsX10_dearest ({ frames := 4, cells := 0, slots := 0, locals := 98 }) cX10_dearest 6 (some .int) (dC, dI) (tysA cB cI cJ cZ cS) as 20 (wX cB cI cJ cZ cS a b b2 c0 rg sl s) [(0, .ref (c0 0)), (1, .int x1), (2, .int x2), (3, .int x3), (4, .int x4)] [] (fun x u => x = r ∧ u = (wX cB cI cJ cZ cS a b b2 c0 rg sl s')) := by
  intro n
  induction n with
  | zero => intro s x1 x2 x3 x4 hB; exact none_ne hB
  | succ n ih => intro s x1 x2 x3 x4 hB; exact bkX10_dearest_20 ih _ _ _ _ _ hB
set_option maxHeartbeats 4000000 in
set_option maxRecDepth 100000 in
theorem bkX10_dearest_11 {l : Launch} {dC : Nat → ClassId} {dI : Nat → Nat → Nat} {cB cI cJ cZ cS : ClassId} {a b b2 c0 : Nat → Nat} {rg sl : Nat → Option Nat} {as : List Value} {r : Int32} {s' : XS} (s : XS) (x1 : Int32) (hB : kX10_dearest_11 s x1 = some (r, s')) : BlkI l yX10_dearest wsX10_dearest ({ frames := 4, cells := 0, slots := 0, locals := 98 }) cX10_dearest 6 (some .int) (dC, dI) (tysA cB cI cJ cZ cS) as 11 (wX cB cI cJ cZ cS a b b2 c0 rg sl s) [(0, .ref (c0 0)), (1, .int x1)] [] (fun x u => x = r ∧ u = (wX cB cI cJ cZ cS a b b2 c0 rg sl s')) := by
  intro p e s0 m below meth c A E H locs ls hP hD hS hl
  obtain ⟨C, hr, hlocks, hA, hK, hN⟩ := id E
  obtain ⟨hx, hb, hml, hown, hts⟩ := id C
  unfold kX10_dearest_11 at hB
  refine lv_bipush (v := (-2)) hx hb dX10_dearest_11 (by decide) ?_
  refine lv_istore_n (lv' := [(2, .int (-2)), (0, .ref (c0 0)), (1, .int x1)]) hx hb dX10_dearest_13 rfl hl (by decide) rfl (fun ls hl => ?_)
  refine lv_bipush (v := (-2)) hx hb dX10_dearest_14 (by decide) ?_
  refine lv_istore_n (lv' := [(3, .int (-2)), (2, .int (-2)), (0, .ref (c0 0)), (1, .int x1)]) hx hb dX10_dearest_16 rfl hl (by decide) rfl (fun ls hl => ?_)
  refine lv_iconst (v := 0) hx hb dX10_dearest_17 (by decide) ?_
  refine lv_istore (lv' := [(4, .int 0), (3, .int (-2)), (2, .int (-2)), (0, .ref (c0 0)), (1, .int x1)]) hx hb dX10_dearest_18 hl (by decide) rfl (fun ls hl => ?_)
  exact bkX10_dearest_20L fu _ _ _ _ _ hB p e s0 m below meth c A E H locs ls hP hD hS (lv_sub hl [3, 4, 2, 1, 0] rfl)
set_option maxHeartbeats 4000000 in
set_option maxRecDepth 100000 in
theorem bkX10_dearest {l : Launch} {dC : Nat → ClassId} {dI : Nat → Nat → Nat} {cB cI cJ cZ cS : ClassId} {a b b2 c0 : Nat → Nat} {rg sl : Nat → Option Nat} {as : List Value} {r : Int32} {s' : XS} (s : XS) (x1 : Int32) (hB : kX10_dearest s x1 = some (r, s')) : BlkI l yX10_dearest wsX10_dearest ({ frames := 4, cells := 0, slots := 0, locals := 98 }) cX10_dearest 6 (some .int) (dC, dI) (tysA cB cI cJ cZ cS) as 0 (wX cB cI cJ cZ cS a b b2 c0 rg sl s) [(0, .ref (c0 0)), (1, .int x1)] [] (fun x u => x = r ∧ u = (wX cB cI cJ cZ cS a b b2 c0 rg sl s')) := by
  intro p e s0 m below meth c A E H locs ls hP hD hS hl
  obtain ⟨C, hr, hlocks, hA, hK, hN⟩ := id E
  obtain ⟨hx, hb, hml, hown, hts⟩ := id C
  unfold kX10_dearest at hB
  refine lv_iload_n hx hb dX10_dearest_0 rfl (lv_at hl 1 rfl) ?_
  refine lv_if_eq (tgt := 11) hx hb dX10_dearest_1 (by decide) (fun c1 => ?_) (fun c1 => ?_)
  · have hB := if_p hB c1
    exact bkX10_dearest_11 _ _ hB p e s0 m below meth c A E H locs ls hP hD hS (lv_sub hl [0, 1] rfl)
  · have hB := if_n hB c1
    refine lv_iload_n hx hb dX10_dearest_4 rfl (lv_at hl 1 rfl) ?_
    refine lv_iconst (v := 1) hx hb dX10_dearest_5 (by decide) ?_
    refine lv_icmp_eq (tgt := 11) hx hb dX10_dearest_6 (by decide) (fun c2 => ?_) (fun c2 => ?_)
    · have hB := if_p hB c2
      exact bkX10_dearest_11 _ _ hB p e s0 m below meth c A E H locs ls hP hD hS (lv_sub hl [0, 1] rfl)
    · have hB := if_n hB c2
      refine lv_iconst (v := (-1)) hx hb dX10_dearest_9 (by decide) ?_
      exact q_iret C hr hlocks hK hP hD hS (Nat.le_of_ble_eq_true rfl) (Nat.le_of_ble_eq_true rfl) dX10_dearest_10 (by cases hB; exact ⟨rfl, rfl⟩)
theorem ckX10_dearest {l : Launch} {dC : Nat → ClassId} {dI : Nat → Nat → Nat} {cB cI cJ cZ cS : ClassId} {a b b2 c0 : Nat → Nat} {rg sl : Nat → Option Nat} {r : Int32} {s' : XS} {s : XS} {x1 : Int32} (hB : kX10_dearest s x1 = some (r, s')) : CI l yX10_dearest wsX10_dearest ({ frames := 4, cells := 0, slots := 0, locals := 98 }) (dC, dI) (tysA cB cI cJ cZ cS) (wX cB cI cJ cZ cS a b b2 c0 rg sl s) [.ref (c0 0), .int x1] (fun x u => x = r ∧ u = (wX cB cI cJ cZ cS a b b2 c0 rg sl s')) :=
  CI_of (cc := cX10_dearest) (maxL := 6) (ret := (some .int)) (by decide) rfl (Nat.le_of_ble_eq_true rfl) (bkX10_dearest _ _ hB)
theorem LX10_darers_19 : Cond.fieldLink RX10 19 "GuessFerry" "sound" "LGuessFerry$Sound;" ∈ wsX10_darers := by decide +kernel
theorem LX10_darers_35 : Cond.fieldLink RX10 35 "GuessFerry" "now" "LGuessFerry$Standing;" ∈ wsX10_darers := by decide +kernel
theorem LX10_darers_54 : Cond.fieldLink RX10 54 "GuessFerry" "crossing" "LGuessFerry$Crossing;" ∈ wsX10_darers := by decide +kernel
theorem LX10_darers_E_X0_isDaring : Cond.selects RX0 yX0_isDaring yX0_isDaring ∈ wsX10_darers := by decide +kernel
theorem LX10_darers_I_X0 : Cond.initialized RX0 ∈ wsX10_darers := by decide +kernel
theorem LX10_darers_N_X0_isDaring : Cond.instanceMethod yX0_isDaring ∈ wsX10_darers := by decide +kernel
theorem inX10_darers_X10 : ∀ w ∈ u_ws RX10 TX10 9, w ∈ wsX10_darers := by decide +kernel
theorem inX10_darers_X5 : ∀ w ∈ u_ws RX5 TX5 10, w ∈ wsX10_darers := by decide +kernel
theorem inX10_darers_X6 : ∀ w ∈ u_ws RX6 TX6 7, w ∈ wsX10_darers := by decide +kernel
set_option maxHeartbeats 4000000 in
set_option maxRecDepth 100000 in
theorem bkX10_darers_48 {l : Launch} {dC : Nat → ClassId} {dI : Nat → Nat → Nat} {cB cI cJ cZ cS : ClassId} {a b b2 c0 : Nat → Nat} {rg sl : Nat → Option Nat} {as : List Value} {r : Int32} {s' : XS} {k4 : XS → Int32 → Int32 → Option (Int32 × XS)} (hk4 : ∀ (s : XS) (x1 : Int32) (x2 : Int32), k4 s x1 x2 = some (r, s') → BlkI l yX10_darers wsX10_darers ({ frames := 4, cells := 0, slots := 0, locals := 98 }) cX10_darers 3 (some .int) (dC, dI) (tysA cB cI cJ cZ cS) as 4 (wX cB cI cJ cZ cS a b b2 c0 rg sl s) [(0, .ref (c0 0)), (1, .int x1), (2, .int x2)] [] (fun x u => x = r ∧ u = (wX cB cI cJ cZ cS a b b2 c0 rg sl s'))) (s : XS) (x1 : Int32) (x2 : Int32) (hB : kX10_darers_48 k4 s x1 x2 = some (r, s')) : BlkI l yX10_darers wsX10_darers ({ frames := 4, cells := 0, slots := 0, locals := 98 }) cX10_darers 3 (some .int) (dC, dI) (tysA cB cI cJ cZ cS) as 48 (wX cB cI cJ cZ cS a b b2 c0 rg sl s) [(0, .ref (c0 0)), (1, .int x1), (2, .int x2)] [] (fun x u => x = r ∧ u = (wX cB cI cJ cZ cS a b b2 c0 rg sl s')) := by
  intro p e s0 m below meth c A E H locs ls hP hD hS hl
  obtain ⟨C, hr, hlocks, hA, hK, hN⟩ := id E
  obtain ⟨hx, hb, hml, hown, hts⟩ := id C
  unfold kX10_darers_48 at hB
  refine lv_iinc (v := (x2 + 1)) (lv' := [(2, .int (x2 + 1)), (0, .ref (c0 0)), (1, .int x1)]) hx hb dX10_darers_48 hl (k := 2) rfl (rfl) (by decide) rfl (fun ls hl => ?_)
  refine lv_goto (tgt := 4) hx hb dX10_darers_51 (by decide) ?_
  exact hk4 _ _ _ hB p e s0 m below meth c A E H locs ls hP hD hS (lv_sub hl [1, 2, 0] rfl)
set_option maxHeartbeats 4000000 in
set_option maxRecDepth 100000 in
theorem bkX10_darers_4 {l : Launch} {dC : Nat → ClassId} {dI : Nat → Nat → Nat} {cB cI cJ cZ cS : ClassId} {a b b2 c0 : Nat → Nat} {rg sl : Nat → Option Nat} {as : List Value} {r : Int32} {s' : XS} {k4 : XS → Int32 → Int32 → Option (Int32 × XS)} (hk4 : ∀ (s : XS) (x1 : Int32) (x2 : Int32), k4 s x1 x2 = some (r, s') → BlkI l yX10_darers wsX10_darers ({ frames := 4, cells := 0, slots := 0, locals := 98 }) cX10_darers 3 (some .int) (dC, dI) (tysA cB cI cJ cZ cS) as 4 (wX cB cI cJ cZ cS a b b2 c0 rg sl s) [(0, .ref (c0 0)), (1, .int x1), (2, .int x2)] [] (fun x u => x = r ∧ u = (wX cB cI cJ cZ cS a b b2 c0 rg sl s'))) (s : XS) (x1 : Int32) (x2 : Int32) (hB : kX10_darers_4 k4 s x1 x2 = some (r, s')) : BlkI l yX10_darers wsX10_darers ({ frames := 4, cells := 0, slots := 0, locals := 98 }) cX10_darers 3 (some .int) (dC, dI) (tysA cB cI cJ cZ cS) as 4 (wX cB cI cJ cZ cS a b b2 c0 rg sl s) [(0, .ref (c0 0)), (1, .int x1), (2, .int x2)] [] (fun x u => x = r ∧ u = (wX cB cI cJ cZ cS a b b2 c0 rg sl s')) := by
  intro p e s0 m below meth c A E H locs ls hP hD hS hl
  obtain ⟨C, hr, hlocks, hA, hK, hN⟩ := id E
  obtain ⟨hx, hb, hml, hown, hts⟩ := id C
  unfold kX10_darers_4 at hB
  refine lv_iload_n hx hb dX10_darers_4 rfl (lv_at hl 2 rfl) ?_
  refine lv_aload_n hx hb dX10_darers_5 rfl (lv_at hl 0 rfl) ?_
  refine q_get (v := .ref (a 2)) C inX10_darers_X10 hK hP 0 rfl rfl 1 (by decide) rfl LX10_darers_19 rfl dX10_darers_6 ?_
  refine q_getN (v := .int (s.k.v 2)) C hN inX10_darers_X5 hK hP 19 rfl rfl 7 (by decide) rfl nwF_X10_235 rfl dX10_darers_9 ?_
  refine lv_icmp_ge (tgt := 54) hx hb dX10_darers_12 (by decide) (fun c1 => ?_) (fun c1 => ?_)
  · have hB := if_p hB c1
    refine lv_iload_n hx hb dX10_darers_54 rfl (lv_at hl 1 rfl) ?_
    exact q_iret C hr hlocks hK hP hD hS (Nat.le_of_ble_eq_true rfl) (Nat.le_of_ble_eq_true rfl) dX10_darers_55 (by cases hB; exact ⟨rfl, rfl⟩)
  · have hB := if_n hB c1
    refine lv_aload_n hx hb dX10_darers_15 rfl (lv_at hl 0 rfl) ?_
    refine q_get (v := .ref (b 0)) C inX10_darers_X10 hK hP 0 rfl rfl 3 (by decide) rfl LX10_darers_35 rfl dX10_darers_16 ?_
    refine q_getN (v := .ref (b 4)) C hN inX10_darers_X6 hK hP 11 rfl rfl 3 (by decide) rfl nwF_X10_147 rfl dX10_darers_19 ?_
    refine lv_iload_n hx hb dX10_darers_22 rfl (lv_at hl 2 rfl) ?_
    obtain ⟨g2, hB⟩ := guard_inv hB
    refine q_iald (x := ((s.n.f 3) (Int32.toNatClampNeg x2))) C hK hP 15 1 rfl rfl (vpb_in g2) dX10_darers_23 rfl ?_
    refine lv_if_ne (tgt := 48) hx hb dX10_darers_24 (by decide) (fun c3 => ?_) (fun c3 => ?_)
    · have hB := if_n hB c3
      exact bkX10_darers_48 (hk4) _ _ _ hB p e s0 m below meth c A E H locs ls hP hD hS (lv_sub hl [0, 1, 2] rfl)
    · have hB := if_p hB c3
      refine lv_aload_n hx hb dX10_darers_27 rfl (lv_at hl 0 rfl) ?_
      refine q_get (v := .ref (a 35)) C inX10_darers_X10 hK hP 0 rfl rfl 6 (by decide) rfl LX10_darers_54 rfl dX10_darers_28 ?_
      refine lv_aload_n hx hb dX10_darers_31 rfl (lv_at hl 0 rfl) ?_
      refine q_get (v := .ref (b 0)) C inX10_darers_X10 hK hP 0 rfl rfl 3 (by decide) rfl LX10_darers_35 rfl dX10_darers_32 ?_
      refine lv_iload_n hx hb dX10_darers_35 rfl (lv_at hl 2 rfl) ?_
      obtain ⟨q_, s4, hc, hB⟩ := bindI_inv hB
      refine q_goi (wr := ((wG cZ cS a b b2 c0 rg sl s.g) ++ (wD cI b2 s.t))) (va_runVN (As := [.ref (b 0), .int x2]) (rest := []) C (ckX0_isDaring hc _) ⟨va_cnB 2 hts gX10_darers_X0_isDaring_n156 rfl rfl rfl (hN _ nwM_X10_156 rfl) (hts _ LX10_darers_I_X0) (by decide +kernel) ⟨Nat.le_of_ble_eq_true rfl, Nat.le_of_ble_eq_true rfl⟩, hts _ LX10_darers_N_X0_isDaring, hts _ LX10_darers_E_X0_isDaring⟩ (q_preV hK hP (ci := 0) (q0 := 52) rfl rfl rfl (q_pre hN hK hP hD [11, 12, 13, 14, 15, 16, 17, 18, 19, 20, 21, 22, 23, 24, 25, 26, 27, 28, 29, 30, 31, 32, 33, 34, 35, 36, 37, 38, 39, 40, 41, 42, 43, 44, 45, 46, 47, 48, 49, 50, 51, 52, 53, 54, 55, 56, 57, 58, 59, 60, 61, 62, 63] rfl (by decide))) rfl rfl hl.1 rfl (lv_room (Nat.le_of_ble_eq_true rfl)) dX10_darers_36 ⟨Nat.le_of_ble_eq_true rfl, Nat.le_of_ble_eq_true rfl⟩) hP hD hS hA [11, 12, 13, 14, 15, 16, 17, 18, 19, 20, 21, 22, 23, 24, 25, 26, 27, 28, 29, 30, 31, 32, 33, 34, 35, 36, 37, 38, 39, 40, 41, 42, 43, 44, 45, 46, 47, 48, 49, 50, 51, 52, 53, 54, 55, 56, 57, 58, 59, 60, 61, 62, 63] [0, 1, 2, 3, 4, 5, 6, 7, 8, 9, 10] rfl rfl (by decide) (by decide) (fun r5 w1 H locs hw hP hD hS => ?_)
      obtain ⟨hq_, hw⟩ := hw; subst hw; subst hq_
      obtain ⟨s6, hs7, hB⟩ := letS_inv hB
      have hP : va_P (dC, dI) vwCl (wX cB cI cJ cZ cS a b b2 c0 rg sl s6) H := by subst hs7; exact hP
      have hD : va_D A (wX cB cI cJ cZ cS a b b2 c0 rg sl s6) := by subst hs7; exact hD
      refine lv_if_eq (tgt := 48) hx hb dX10_darers_39 (by decide) (fun c8 => ?_) (fun c8 => ?_)
      · have hB := if_p hB c8
        exact bkX10_darers_48 (hk4) _ _ _ hB p e s0 m below meth c A E H locs ls hP hD hS (lv_sub hl [0, 1, 2] rfl)
      · have hB := if_n hB c8
        refine lv_iload_n hx hb dX10_darers_42 rfl (lv_at hl 1 rfl) ?_
        refine lv_iconst (v := 1) hx hb dX10_darers_43 (by decide) ?_
        refine lv_iload_n hx hb dX10_darers_44 rfl (lv_at hl 2 rfl) ?_
        refine lv_ishl hx hb dX10_darers_45 ?_
        refine lv_ior hx hb dX10_darers_46 ?_
        refine lv_istore_n (lv' := [(1, .int (x1 ||| (1 <<< (x2 &&& 31)))), (0, .ref (c0 0)), (2, .int x2)]) hx hb dX10_darers_47 rfl hl (by decide) rfl (fun ls hl => ?_)
        exact bkX10_darers_48 (hk4) _ _ _ hB p e s0 m below meth c A E H locs ls hP hD hS (lv_sub hl [1, 0, 2] rfl)
theorem bkX10_darers_4L {l : Launch} {dC : Nat → ClassId} {dI : Nat → Nat → Nat} {cB cI cJ cZ cS : ClassId} {a b b2 c0 : Nat → Nat} {rg sl : Nat → Option Nat} {as : List Value} {r : Int32} {s' : XS} : ∀ (n : Nat) (s : XS) (x1 : Int32) (x2 : Int32), kX10_darers_4L n s x1 x2 = some (r, s') → BlkI l yX10_darers wsX10_darers ({ frames := 4, cells := 0, slots := 0, locals := 98 }) cX10_darers 3 (some .int) (dC, dI) (tysA cB cI cJ cZ cS) as 4 (wX cB cI cJ cZ cS a b b2 c0 rg sl s) [(0, .ref (c0 0)), (1, .int x1), (2, .int x2)] [] (fun x u => x = r ∧ u = (wX cB cI cJ cZ cS a b b2 c0 rg sl s')) := by
  intro n
  induction n with
  | zero => intro s x1 x2 hB; exact none_ne hB
  | succ n ih => intro s x1 x2 hB; exact bkX10_darers_4 ih _ _ _ hB
set_option maxHeartbeats 4000000 in
set_option maxRecDepth 100000 in
theorem bkX10_darers {l : Launch} {dC : Nat → ClassId} {dI : Nat → Nat → Nat} {cB cI cJ cZ cS : ClassId} {a b b2 c0 : Nat → Nat} {rg sl : Nat → Option Nat} {as : List Value} {r : Int32} {s' : XS} (s : XS) (hB : kX10_darers s = some (r, s')) : BlkI l yX10_darers wsX10_darers ({ frames := 4, cells := 0, slots := 0, locals := 98 }) cX10_darers 3 (some .int) (dC, dI) (tysA cB cI cJ cZ cS) as 0 (wX cB cI cJ cZ cS a b b2 c0 rg sl s) [(0, .ref (c0 0))] [] (fun x u => x = r ∧ u = (wX cB cI cJ cZ cS a b b2 c0 rg sl s')) := by
  intro p e s0 m below meth c A E H locs ls hP hD hS hl
  obtain ⟨C, hr, hlocks, hA, hK, hN⟩ := id E
  obtain ⟨hx, hb, hml, hown, hts⟩ := id C
  unfold kX10_darers at hB
  refine lv_iconst (v := 0) hx hb dX10_darers_0 (by decide) ?_
  refine lv_istore_n (lv' := [(1, .int 0), (0, .ref (c0 0))]) hx hb dX10_darers_1 rfl hl (by decide) rfl (fun ls hl => ?_)
  refine lv_iconst (v := 0) hx hb dX10_darers_2 (by decide) ?_
  refine lv_istore_n (lv' := [(2, .int 0), (1, .int 0), (0, .ref (c0 0))]) hx hb dX10_darers_3 rfl hl (by decide) rfl (fun ls hl => ?_)
  exact bkX10_darers_4L fu _ _ _ hB p e s0 m below meth c A E H locs ls hP hD hS (lv_sub hl [2, 1, 0] rfl)
theorem ckX10_darers {l : Launch} {dC : Nat → ClassId} {dI : Nat → Nat → Nat} {cB cI cJ cZ cS : ClassId} {a b b2 c0 : Nat → Nat} {rg sl : Nat → Option Nat} {r : Int32} {s' : XS} {s : XS} (hB : kX10_darers s = some (r, s')) : CI l yX10_darers wsX10_darers ({ frames := 4, cells := 0, slots := 0, locals := 98 }) (dC, dI) (tysA cB cI cJ cZ cS) (wX cB cI cJ cZ cS a b b2 c0 rg sl s) [.ref (c0 0)] (fun x u => x = r ∧ u = (wX cB cI cJ cZ cS a b b2 c0 rg sl s')) :=
  CI_of (cc := cX10_darers) (maxL := 3) (ret := (some .int)) (by decide) rfl (Nat.le_of_ble_eq_true rfl) (bkX10_darers _ hB)
theorem LX10_year_19 : Cond.fieldLink RX10 19 "GuessFerry" "sound" "LGuessFerry$Sound;" ∈ wsX10_year := by decide +kernel
theorem LX10_year_35 : Cond.fieldLink RX10 35 "GuessFerry" "now" "LGuessFerry$Standing;" ∈ wsX10_year := by decide +kernel
theorem LX10_year_54 : Cond.fieldLink RX10 54 "GuessFerry" "crossing" "LGuessFerry$Crossing;" ∈ wsX10_year := by decide +kernel
theorem LX10_year_E_X0_guessThere : Cond.selects RX0 yX0_guessThere yX0_guessThere ∈ wsX10_year := by decide +kernel
theorem LX10_year_E_X5_hasGuess : Cond.selects RX5 yX5_hasGuess yX5_hasGuess ∈ wsX10_year := by decide +kernel
theorem LX10_year_I_X0 : Cond.initialized RX0 ∈ wsX10_year := by decide +kernel
theorem LX10_year_I_X5 : Cond.initialized RX5 ∈ wsX10_year := by decide +kernel
theorem LX10_year_N_X0_guessThere : Cond.instanceMethod yX0_guessThere ∈ wsX10_year := by decide +kernel
theorem LX10_year_N_X5_hasGuess : Cond.instanceMethod yX5_hasGuess ∈ wsX10_year := by decide +kernel
theorem inX10_year_X10 : ∀ w ∈ u_ws RX10 TX10 9, w ∈ wsX10_year := by decide +kernel
theorem inX10_year_X5 : ∀ w ∈ u_ws RX5 TX5 10, w ∈ wsX10_year := by decide +kernel
set_option maxHeartbeats 4000000 in
set_option maxRecDepth 100000 in
theorem bkX10_year_63 {l : Launch} {dC : Nat → ClassId} {dI : Nat → Nat → Nat} {cB cI cJ cZ cS : ClassId} {a b b2 c0 : Nat → Nat} {rg sl : Nat → Option Nat} {as : List Value} {r : Int32} {s' : XS} {k29 : XS → Int32 → Int32 → Int32 → Int32 → Option (Int32 × XS)} (hk29 : ∀ (s : XS) (x1 : Int32) (x2 : Int32) (x3 : Int32) (x4 : Int32), k29 s x1 x2 x3 x4 = some (r, s') → BlkI l yX10_year wsX10_year ({ frames := 4, cells := 0, slots := 0, locals := 95 }) cX10_year 5 (some .int) (dC, dI) (tysA cB cI cJ cZ cS) as 29 (wX cB cI cJ cZ cS a b b2 c0 rg sl s) [(0, .ref (c0 0)), (1, .int x1), (2, .int x2), (3, .int x3), (4, .int x4)] [] (fun x u => x = r ∧ u = (wX cB cI cJ cZ cS a b b2 c0 rg sl s'))) (s : XS) (x1 : Int32) (x2 : Int32) (x3 : Int32) (x4 : Int32) (hB : kX10_year_63 k29 s x1 x2 x3 x4 = some (r, s')) : BlkI l yX10_year wsX10_year ({ frames := 4, cells := 0, slots := 0, locals := 95 }) cX10_year 5 (some .int) (dC, dI) (tysA cB cI cJ cZ cS) as 63 (wX cB cI cJ cZ cS a b b2 c0 rg sl s) [(0, .ref (c0 0)), (1, .int x1), (2, .int x2), (3, .int x3), (4, .int x4)] [] (fun x u => x = r ∧ u = (wX cB cI cJ cZ cS a b b2 c0 rg sl s')) := by
  intro p e s0 m below meth c A E H locs ls hP hD hS hl
  obtain ⟨C, hr, hlocks, hA, hK, hN⟩ := id E
  obtain ⟨hx, hb, hml, hown, hts⟩ := id C
  unfold kX10_year_63 at hB
  refine lv_iinc (v := (x4 + 1)) (lv' := [(4, .int (x4 + 1)), (0, .ref (c0 0)), (1, .int x1), (2, .int x2), (3, .int x3)]) hx hb dX10_year_63 hl (k := 4) rfl (rfl) (by decide) rfl (fun ls hl => ?_)
  refine lv_goto (tgt := 29) hx hb dX10_year_66 (by decide) ?_
  exact hk29 _ _ _ _ _ hB p e s0 m below meth c A E H locs ls hP hD hS (lv_sub hl [1, 2, 3, 4, 0] rfl)
set_option maxHeartbeats 4000000 in
set_option maxRecDepth 100000 in
theorem bkX10_year_29 {l : Launch} {dC : Nat → ClassId} {dI : Nat → Nat → Nat} {cB cI cJ cZ cS : ClassId} {a b b2 c0 : Nat → Nat} {rg sl : Nat → Option Nat} {as : List Value} {r : Int32} {s' : XS} {k29 : XS → Int32 → Int32 → Int32 → Int32 → Option (Int32 × XS)} (hk29 : ∀ (s : XS) (x1 : Int32) (x2 : Int32) (x3 : Int32) (x4 : Int32), k29 s x1 x2 x3 x4 = some (r, s') → BlkI l yX10_year wsX10_year ({ frames := 4, cells := 0, slots := 0, locals := 95 }) cX10_year 5 (some .int) (dC, dI) (tysA cB cI cJ cZ cS) as 29 (wX cB cI cJ cZ cS a b b2 c0 rg sl s) [(0, .ref (c0 0)), (1, .int x1), (2, .int x2), (3, .int x3), (4, .int x4)] [] (fun x u => x = r ∧ u = (wX cB cI cJ cZ cS a b b2 c0 rg sl s'))) (s : XS) (x1 : Int32) (x2 : Int32) (x3 : Int32) (x4 : Int32) (hB : kX10_year_29 k29 s x1 x2 x3 x4 = some (r, s')) : BlkI l yX10_year wsX10_year ({ frames := 4, cells := 0, slots := 0, locals := 95 }) cX10_year 5 (some .int) (dC, dI) (tysA cB cI cJ cZ cS) as 29 (wX cB cI cJ cZ cS a b b2 c0 rg sl s) [(0, .ref (c0 0)), (1, .int x1), (2, .int x2), (3, .int x3), (4, .int x4)] [] (fun x u => x = r ∧ u = (wX cB cI cJ cZ cS a b b2 c0 rg sl s')) := by
  intro p e s0 m below meth c A E H locs ls hP hD hS hl
  obtain ⟨C, hr, hlocks, hA, hK, hN⟩ := id E
  obtain ⟨hx, hb, hml, hown, hts⟩ := id C
  unfold kX10_year_29 at hB
  refine lv_iload hx hb dX10_year_29 (lv_at hl 4 rfl) ?_
  refine lv_iload_n hx hb dX10_year_31 rfl (lv_at hl 2 rfl) ?_
  refine lv_icmp_ge (tgt := 69) hx hb dX10_year_32 (by decide) (fun c1 => ?_) (fun c1 => ?_)
  · have hB := if_p hB c1
    refine lv_iload_n hx hb dX10_year_69 rfl (lv_at hl 3 rfl) ?_
    exact q_iret C hr hlocks hK hP hD hS (Nat.le_of_ble_eq_true rfl) (Nat.le_of_ble_eq_true rfl) dX10_year_70 (by cases hB; exact ⟨rfl, rfl⟩)
  · have hB := if_n hB c1
    refine lv_aload_n hx hb dX10_year_35 rfl (lv_at hl 0 rfl) ?_
    refine q_get (v := .ref (a 35)) C inX10_year_X10 hK hP 0 rfl rfl 6 (by decide) rfl LX10_year_54 rfl dX10_year_36 ?_
    refine lv_aload_n hx hb dX10_year_39 rfl (lv_at hl 0 rfl) ?_
    refine q_get (v := .ref (b 0)) C inX10_year_X10 hK hP 0 rfl rfl 3 (by decide) rfl LX10_year_35 rfl dX10_year_40 ?_
    refine lv_aload_n hx hb dX10_year_43 rfl (lv_at hl 0 rfl) ?_
    refine q_get (v := .ref (a 2)) C inX10_year_X10 hK hP 0 rfl rfl 1 (by decide) rfl LX10_year_19 rfl dX10_year_44 ?_
    refine q_getN (v := .int (s.k.v 4)) C hN inX10_year_X5 hK hP 19 rfl rfl 9 (by decide) rfl nwF_X10_253 rfl dX10_year_47 ?_
    refine lv_iload hx hb dX10_year_50 (lv_at hl 4 rfl) ?_
    refine lv_iadd hx hb dX10_year_52 ?_
    obtain ⟨q_, s2, hc, hB⟩ := bindI_inv hB
    refine q_goi (wr := ((wG cZ cS a b b2 c0 rg sl s.g) ++ (wD cI b2 s.t))) (va_runVN (As := [.ref (b 0), .int ((s.k.v 4) + x4)]) (rest := []) C (ckX0_guessThere hc _) ⟨va_cnB 2 hts gX10_year_X0_guessThere_n256 rfl rfl rfl (hN _ nwM_X10_256 rfl) (hts _ LX10_year_I_X0) (by decide +kernel) ⟨Nat.le_of_ble_eq_true rfl, Nat.le_of_ble_eq_true rfl⟩, hts _ LX10_year_N_X0_guessThere, hts _ LX10_year_E_X0_guessThere⟩ (q_preV hK hP (ci := 0) (q0 := 52) rfl rfl rfl (q_pre hN hK hP hD [11, 12, 13, 14, 15, 16, 17, 18, 19, 20, 21, 22, 23, 24, 25, 26, 27, 28, 29, 30, 31, 32, 33, 34, 35, 36, 37, 38, 39, 40, 41, 42, 43, 44, 45, 46, 47, 48, 49, 50, 51, 52, 53, 54, 55, 56, 57, 58, 59, 60, 61, 62, 63] rfl (by decide))) rfl rfl hl.1 rfl (lv_room (Nat.le_of_ble_eq_true rfl)) dX10_year_53 ⟨Nat.le_of_ble_eq_true rfl, Nat.le_of_ble_eq_true rfl⟩) hP hD hS hA [11, 12, 13, 14, 15, 16, 17, 18, 19, 20, 21, 22, 23, 24, 25, 26, 27, 28, 29, 30, 31, 32, 33, 34, 35, 36, 37, 38, 39, 40, 41, 42, 43, 44, 45, 46, 47, 48, 49, 50, 51, 52, 53, 54, 55, 56, 57, 58, 59, 60, 61, 62, 63] [0, 1, 2, 3, 4, 5, 6, 7, 8, 9, 10] rfl rfl (by decide) (by decide) (fun r3 w1 H locs hw hP hD hS => ?_)
    obtain ⟨hq_, hw⟩ := hw; subst hw; subst hq_
    obtain ⟨s4, hs5, hB⟩ := letS_inv hB
    have hP : va_P (dC, dI) vwCl (wX cB cI cJ cZ cS a b b2 c0 rg sl s4) H := by subst hs5; exact hP
    have hD : va_D A (wX cB cI cJ cZ cS a b b2 c0 rg sl s4) := by subst hs5; exact hD
    refine lv_iload_n hx hb dX10_year_56 rfl (lv_at hl 1 rfl) ?_
    refine lv_icmp_ne (tgt := 63) hx hb dX10_year_57 (by decide) (fun c6 => ?_) (fun c6 => ?_)
    · have hB := if_n hB c6
      exact bkX10_year_63 (hk29) _ _ _ _ _ hB p e s0 m below meth c A E H locs ls hP hD hS (lv_sub hl [0, 1, 2, 3, 4] rfl)
    · have hB := if_p hB c6
      refine lv_iinc (v := (x3 + 1)) (lv' := [(3, .int (x3 + 1)), (0, .ref (c0 0)), (1, .int x1), (2, .int x2), (4, .int x4)]) hx hb dX10_year_60 hl (k := 3) rfl (rfl) (by decide) rfl (fun ls hl => ?_)
      exact bkX10_year_63 (hk29) _ _ _ _ _ hB p e s0 m below meth c A E H locs ls hP hD hS (lv_sub hl [1, 2, 3, 0, 4] rfl)
theorem bkX10_year_29L {l : Launch} {dC : Nat → ClassId} {dI : Nat → Nat → Nat} {cB cI cJ cZ cS : ClassId} {a b b2 c0 : Nat → Nat} {rg sl : Nat → Option Nat} {as : List Value} {r : Int32} {s' : XS} : ∀ (n : Nat) (s : XS) (x1 : Int32) (x2 : Int32) (x3 : Int32) (x4 : Int32), kX10_year_29L n s x1 x2 x3 x4 = some (r, s') → BlkI l yX10_year wsX10_year ({ frames := 4, cells := 0, slots := 0, locals := 95 }) cX10_year 5 (some .int) (dC, dI) (tysA cB cI cJ cZ cS) as 29 (wX cB cI cJ cZ cS a b b2 c0 rg sl s) [(0, .ref (c0 0)), (1, .int x1), (2, .int x2), (3, .int x3), (4, .int x4)] [] (fun x u => x = r ∧ u = (wX cB cI cJ cZ cS a b b2 c0 rg sl s')) := by
  intro n
  induction n with
  | zero => intro s x1 x2 x3 x4 hB; exact none_ne hB
  | succ n ih => intro s x1 x2 x3 x4 hB; exact bkX10_year_29 ih _ _ _ _ _ hB
set_option maxHeartbeats 4000000 in
set_option maxRecDepth 100000 in
theorem bkX10_year {l : Launch} {dC : Nat → ClassId} {dI : Nat → Nat → Nat} {cB cI cJ cZ cS : ClassId} {a b b2 c0 : Nat → Nat} {rg sl : Nat → Option Nat} {as : List Value} {r : Int32} {s' : XS} (s : XS) (x1 : Int32) (x2 : Int32) (hB : kX10_year s x1 x2 = some (r, s')) : BlkI l yX10_year wsX10_year ({ frames := 4, cells := 0, slots := 0, locals := 95 }) cX10_year 5 (some .int) (dC, dI) (tysA cB cI cJ cZ cS) as 0 (wX cB cI cJ cZ cS a b b2 c0 rg sl s) [(0, .ref (c0 0)), (1, .int x1), (2, .int x2)] [] (fun x u => x = r ∧ u = (wX cB cI cJ cZ cS a b b2 c0 rg sl s')) := by
  intro p e s0 m below meth c A E H locs ls hP hD hS hl
  obtain ⟨C, hr, hlocks, hA, hK, hN⟩ := id E
  obtain ⟨hx, hb, hml, hown, hts⟩ := id C
  unfold kX10_year at hB
  refine lv_aload_n hx hb dX10_year_0 rfl (lv_at hl 0 rfl) ?_
  refine q_get (v := .ref (a 2)) C inX10_year_X10 hK hP 0 rfl rfl 1 (by decide) rfl LX10_year_19 rfl dX10_year_1 ?_
  refine lv_iload_n hx hb dX10_year_4 rfl (lv_at hl 1 rfl) ?_
  obtain ⟨q_, s1, hc, hB⟩ := bindI_inv hB
  refine q_goi (wr := ((wG cZ cS a b b2 c0 rg sl s.g) ++ (wD cI b2 s.t) ++ (wD cI b s.n))) (va_runVN (As := [.int x1]) (rest := []) C (ckX5_hasGuess hc _) ⟨va_cnB 1 hts gX10_year_X5_hasGuess_n170 rfl rfl rfl (hN _ nwM_X10_170 rfl) (hts _ LX10_year_I_X5) (by decide +kernel) ⟨Nat.le_of_ble_eq_true rfl, Nat.le_of_ble_eq_true rfl⟩, hts _ LX10_year_N_X5_hasGuess, hts _ LX10_year_E_X5_hasGuess⟩ (q_preV hK hP (ci := 5) (q0 := 19) rfl rfl rfl (q_pre hN hK hP hD [17, 18, 19, 20, 21, 22, 23, 24, 25, 26, 27, 28, 29, 30, 31, 32, 33, 34, 35, 36, 37, 38, 39, 40, 41, 42, 43, 44, 45, 46, 47, 48, 49, 50, 51, 52, 53, 54, 55, 56, 57, 58, 59, 60, 61, 62, 63] rfl (by decide))) rfl rfl hl.1 rfl (lv_room (Nat.le_of_ble_eq_true rfl)) dX10_year_5 ⟨Nat.le_of_ble_eq_true rfl, Nat.le_of_ble_eq_true rfl⟩) hP hD hS hA [17, 18, 19, 20, 21, 22, 23, 24, 25, 26, 27, 28, 29, 30, 31, 32, 33, 34, 35, 36, 37, 38, 39, 40, 41, 42, 43, 44, 45, 46, 47, 48, 49, 50, 51, 52, 53, 54, 55, 56, 57, 58, 59, 60, 61, 62, 63] [0, 1, 2, 3, 4, 5, 6, 7, 8, 9, 10, 11, 12, 13, 14, 15, 16] rfl rfl (by decide) (by decide) (fun r2 w1 H locs hw hP hD hS => ?_)
  obtain ⟨hq_, hw⟩ := hw; subst hw; subst hq_
  obtain ⟨s3, hs4, hB⟩ := letS_inv hB
  have hP : va_P (dC, dI) vwCl (wX cB cI cJ cZ cS a b b2 c0 rg sl s3) H := by subst hs4; exact hP
  have hD : va_D A (wX cB cI cJ cZ cS a b b2 c0 rg sl s3) := by subst hs4; exact hD
  refine lv_if_eq (tgt := 22) hx hb dX10_year_8 (by decide) (fun c5 => ?_) (fun c5 => ?_)
  · have hB := if_p hB c5
    refine lv_iconst (v := (-1)) hx hb dX10_year_22 (by decide) ?_
    exact q_iret C hr hlocks hK hP hD hS (Nat.le_of_ble_eq_true rfl) (Nat.le_of_ble_eq_true rfl) dX10_year_23 (by cases hB; exact ⟨rfl, rfl⟩)
  · have hB := if_n hB c5
    refine lv_iload_n hx hb dX10_year_11 rfl (lv_at hl 2 rfl) ?_
    refine lv_iconst (v := 1) hx hb dX10_year_12 (by decide) ?_
    refine lv_icmp_lt (tgt := 22) hx hb dX10_year_13 (by decide) (fun c6 => ?_) (fun c6 => ?_)
    · have hB := if_p hB c6
      refine lv_iconst (v := (-1)) hx hb dX10_year_22 (by decide) ?_
      exact q_iret C hr hlocks hK hP hD hS (Nat.le_of_ble_eq_true rfl) (Nat.le_of_ble_eq_true rfl) dX10_year_23 (by cases hB; exact ⟨rfl, rfl⟩)
    · have hB := if_n hB c6
      refine lv_iload_n hx hb dX10_year_16 rfl (lv_at hl 2 rfl) ?_
      refine lv_bipush (v := 20) hx hb dX10_year_17 (by decide) ?_
      refine lv_icmp_le (tgt := 24) hx hb dX10_year_19 (by decide) (fun c7 => ?_) (fun c7 => ?_)
      · have hB := if_p hB c7
        refine lv_iconst (v := 0) hx hb dX10_year_24 (by decide) ?_
        refine lv_istore_n (lv' := [(3, .int 0), (0, .ref (c0 0)), (1, .int x1), (2, .int x2)]) hx hb dX10_year_25 rfl hl (by decide) rfl (fun ls hl => ?_)
        refine lv_iconst (v := 0) hx hb dX10_year_26 (by decide) ?_
        refine lv_istore (lv' := [(4, .int 0), (3, .int 0), (0, .ref (c0 0)), (1, .int x1), (2, .int x2)]) hx hb dX10_year_27 hl (by decide) rfl (fun ls hl => ?_)
        exact bkX10_year_29L fu _ _ _ _ _ hB p e s0 m below meth c A E H locs ls hP hD hS (lv_sub hl [2, 3, 4, 1, 0] rfl)
      · have hB := if_n hB c7
        refine lv_iconst (v := (-1)) hx hb dX10_year_22 (by decide) ?_
        exact q_iret C hr hlocks hK hP hD hS (Nat.le_of_ble_eq_true rfl) (Nat.le_of_ble_eq_true rfl) dX10_year_23 (by cases hB; exact ⟨rfl, rfl⟩)
theorem ckX10_year {l : Launch} {dC : Nat → ClassId} {dI : Nat → Nat → Nat} {cB cI cJ cZ cS : ClassId} {a b b2 c0 : Nat → Nat} {rg sl : Nat → Option Nat} {r : Int32} {s' : XS} {s : XS} {x1 : Int32} {x2 : Int32} (hB : kX10_year s x1 x2 = some (r, s')) : CI l yX10_year wsX10_year ({ frames := 4, cells := 0, slots := 0, locals := 95 }) (dC, dI) (tysA cB cI cJ cZ cS) (wX cB cI cJ cZ cS a b b2 c0 rg sl s) [.ref (c0 0), .int x1, .int x2] (fun x u => x = r ∧ u = (wX cB cI cJ cZ cS a b b2 c0 rg sl s')) :=
  CI_of (cc := cX10_year) (maxL := 5) (ret := (some .int)) (by decide) rfl (Nat.le_of_ble_eq_true rfl) (bkX10_year _ _ _ hB)
theorem LX10_faresOfAllHere_19 : Cond.fieldLink RX10 19 "GuessFerry" "sound" "LGuessFerry$Sound;" ∈ wsX10_faresOfAllHere := by decide +kernel
theorem LX10_faresOfAllHere_35 : Cond.fieldLink RX10 35 "GuessFerry" "now" "LGuessFerry$Standing;" ∈ wsX10_faresOfAllHere := by decide +kernel
theorem LX10_faresOfAllHere_54 : Cond.fieldLink RX10 54 "GuessFerry" "crossing" "LGuessFerry$Crossing;" ∈ wsX10_faresOfAllHere := by decide +kernel
theorem LX10_faresOfAllHere_E_X0_fareOf : Cond.selects RX0 yX0_fareOf yX0_fareOf ∈ wsX10_faresOfAllHere := by decide +kernel
theorem LX10_faresOfAllHere_I_X0 : Cond.initialized RX0 ∈ wsX10_faresOfAllHere := by decide +kernel
theorem LX10_faresOfAllHere_N_X0_fareOf : Cond.instanceMethod yX0_fareOf ∈ wsX10_faresOfAllHere := by decide +kernel
theorem inX10_faresOfAllHere_X10 : ∀ w ∈ u_ws RX10 TX10 9, w ∈ wsX10_faresOfAllHere := by decide +kernel
theorem inX10_faresOfAllHere_X5 : ∀ w ∈ u_ws RX5 TX5 10, w ∈ wsX10_faresOfAllHere := by decide +kernel
theorem inX10_faresOfAllHere_X6 : ∀ w ∈ u_ws RX6 TX6 7, w ∈ wsX10_faresOfAllHere := by decide +kernel
set_option maxHeartbeats 4000000 in
set_option maxRecDepth 100000 in
theorem bkX10_faresOfAllHere_42 {l : Launch} {dC : Nat → ClassId} {dI : Nat → Nat → Nat} {cB cI cJ cZ cS : ClassId} {a b b2 c0 : Nat → Nat} {rg sl : Nat → Option Nat} {as : List Value} {r : Int32} {s' : XS} {k4 : XS → Int32 → Int32 → Option (Int32 × XS)} (hk4 : ∀ (s : XS) (x1 : Int32) (x2 : Int32), k4 s x1 x2 = some (r, s') → BlkI l yX10_faresOfAllHere wsX10_faresOfAllHere ({ frames := 4, cells := 0, slots := 0, locals := 98 }) cX10_faresOfAllHere 3 (some .int) (dC, dI) (tysA cB cI cJ cZ cS) as 4 (wX cB cI cJ cZ cS a b b2 c0 rg sl s) [(0, .ref (c0 0)), (1, .int x1), (2, .int x2)] [] (fun x u => x = r ∧ u = (wX cB cI cJ cZ cS a b b2 c0 rg sl s'))) (s : XS) (x1 : Int32) (x2 : Int32) (hB : kX10_faresOfAllHere_42 k4 s x1 x2 = some (r, s')) : BlkI l yX10_faresOfAllHere wsX10_faresOfAllHere ({ frames := 4, cells := 0, slots := 0, locals := 98 }) cX10_faresOfAllHere 3 (some .int) (dC, dI) (tysA cB cI cJ cZ cS) as 42 (wX cB cI cJ cZ cS a b b2 c0 rg sl s) [(0, .ref (c0 0)), (1, .int x1), (2, .int x2)] [] (fun x u => x = r ∧ u = (wX cB cI cJ cZ cS a b b2 c0 rg sl s')) := by
  intro p e s0 m below meth c A E H locs ls hP hD hS hl
  obtain ⟨C, hr, hlocks, hA, hK, hN⟩ := id E
  obtain ⟨hx, hb, hml, hown, hts⟩ := id C
  unfold kX10_faresOfAllHere_42 at hB
  refine lv_iinc (v := (x2 + 1)) (lv' := [(2, .int (x2 + 1)), (0, .ref (c0 0)), (1, .int x1)]) hx hb dX10_faresOfAllHere_42 hl (k := 2) rfl (rfl) (by decide) rfl (fun ls hl => ?_)
  refine lv_goto (tgt := 4) hx hb dX10_faresOfAllHere_45 (by decide) ?_
  exact hk4 _ _ _ hB p e s0 m below meth c A E H locs ls hP hD hS (lv_sub hl [1, 2, 0] rfl)
set_option maxHeartbeats 4000000 in
set_option maxRecDepth 100000 in
theorem bkX10_faresOfAllHere_4 {l : Launch} {dC : Nat → ClassId} {dI : Nat → Nat → Nat} {cB cI cJ cZ cS : ClassId} {a b b2 c0 : Nat → Nat} {rg sl : Nat → Option Nat} {as : List Value} {r : Int32} {s' : XS} {k4 : XS → Int32 → Int32 → Option (Int32 × XS)} (hk4 : ∀ (s : XS) (x1 : Int32) (x2 : Int32), k4 s x1 x2 = some (r, s') → BlkI l yX10_faresOfAllHere wsX10_faresOfAllHere ({ frames := 4, cells := 0, slots := 0, locals := 98 }) cX10_faresOfAllHere 3 (some .int) (dC, dI) (tysA cB cI cJ cZ cS) as 4 (wX cB cI cJ cZ cS a b b2 c0 rg sl s) [(0, .ref (c0 0)), (1, .int x1), (2, .int x2)] [] (fun x u => x = r ∧ u = (wX cB cI cJ cZ cS a b b2 c0 rg sl s'))) (s : XS) (x1 : Int32) (x2 : Int32) (hB : kX10_faresOfAllHere_4 k4 s x1 x2 = some (r, s')) : BlkI l yX10_faresOfAllHere wsX10_faresOfAllHere ({ frames := 4, cells := 0, slots := 0, locals := 98 }) cX10_faresOfAllHere 3 (some .int) (dC, dI) (tysA cB cI cJ cZ cS) as 4 (wX cB cI cJ cZ cS a b b2 c0 rg sl s) [(0, .ref (c0 0)), (1, .int x1), (2, .int x2)] [] (fun x u => x = r ∧ u = (wX cB cI cJ cZ cS a b b2 c0 rg sl s')) := by
  intro p e s0 m below meth c A E H locs ls hP hD hS hl
  obtain ⟨C, hr, hlocks, hA, hK, hN⟩ := id E
  obtain ⟨hx, hb, hml, hown, hts⟩ := id C
  unfold kX10_faresOfAllHere_4 at hB
  refine lv_iload_n hx hb dX10_faresOfAllHere_4 rfl (lv_at hl 2 rfl) ?_
  refine lv_aload_n hx hb dX10_faresOfAllHere_5 rfl (lv_at hl 0 rfl) ?_
  refine q_get (v := .ref (a 2)) C inX10_faresOfAllHere_X10 hK hP 0 rfl rfl 1 (by decide) rfl LX10_faresOfAllHere_19 rfl dX10_faresOfAllHere_6 ?_
  refine q_getN (v := .int (s.k.v 2)) C hN inX10_faresOfAllHere_X5 hK hP 19 rfl rfl 7 (by decide) rfl nwF_X10_235 rfl dX10_faresOfAllHere_9 ?_
  refine lv_icmp_ge (tgt := 48) hx hb dX10_faresOfAllHere_12 (by decide) (fun c1 => ?_) (fun c1 => ?_)
  · have hB := if_p hB c1
    refine lv_iload_n hx hb dX10_faresOfAllHere_48 rfl (lv_at hl 1 rfl) ?_
    exact q_iret C hr hlocks hK hP hD hS (Nat.le_of_ble_eq_true rfl) (Nat.le_of_ble_eq_true rfl) dX10_faresOfAllHere_49 (by cases hB; exact ⟨rfl, rfl⟩)
  · have hB := if_n hB c1
    refine lv_aload_n hx hb dX10_faresOfAllHere_15 rfl (lv_at hl 0 rfl) ?_
    refine q_get (v := .ref (b 0)) C inX10_faresOfAllHere_X10 hK hP 0 rfl rfl 3 (by decide) rfl LX10_faresOfAllHere_35 rfl dX10_faresOfAllHere_16 ?_
    refine q_getN (v := .ref (b 4)) C hN inX10_faresOfAllHere_X6 hK hP 11 rfl rfl 3 (by decide) rfl nwF_X10_147 rfl dX10_faresOfAllHere_19 ?_
    refine lv_iload_n hx hb dX10_faresOfAllHere_22 rfl (lv_at hl 2 rfl) ?_
    obtain ⟨g2, hB⟩ := guard_inv hB
    refine q_iald (x := ((s.n.f 3) (Int32.toNatClampNeg x2))) C hK hP 15 1 rfl rfl (vpb_in g2) dX10_faresOfAllHere_23 rfl ?_
    refine lv_if_ne (tgt := 42) hx hb dX10_faresOfAllHere_24 (by decide) (fun c3 => ?_) (fun c3 => ?_)
    · have hB := if_n hB c3
      exact bkX10_faresOfAllHere_42 (hk4) _ _ _ hB p e s0 m below meth c A E H locs ls hP hD hS (lv_sub hl [0, 1, 2] rfl)
    · have hB := if_p hB c3
      refine lv_iload_n hx hb dX10_faresOfAllHere_27 rfl (lv_at hl 1 rfl) ?_
      refine lv_aload_n hx hb dX10_faresOfAllHere_28 rfl (lv_at hl 0 rfl) ?_
      refine q_get (v := .ref (a 35)) C inX10_faresOfAllHere_X10 hK hP 0 rfl rfl 6 (by decide) rfl LX10_faresOfAllHere_54 rfl dX10_faresOfAllHere_29 ?_
      refine lv_aload_n hx hb dX10_faresOfAllHere_32 rfl (lv_at hl 0 rfl) ?_
      refine q_get (v := .ref (b 0)) C inX10_faresOfAllHere_X10 hK hP 0 rfl rfl 3 (by decide) rfl LX10_faresOfAllHere_35 rfl dX10_faresOfAllHere_33 ?_
      refine lv_iload_n hx hb dX10_faresOfAllHere_36 rfl (lv_at hl 2 rfl) ?_
      obtain ⟨q_, s4, hc, hB⟩ := bindI_inv hB
      refine q_goi (wr := ((wG cZ cS a b b2 c0 rg sl s.g) ++ (wD cI b2 s.t))) (va_runVN (As := [.ref (b 0), .int x2]) (rest := [.int x1]) C (ckX0_fareOf hc _) ⟨va_cnB 2 hts gX10_faresOfAllHere_X0_fareOf_n153 rfl rfl rfl (hN _ nwM_X10_153 rfl) (hts _ LX10_faresOfAllHere_I_X0) (by decide +kernel) ⟨Nat.le_of_ble_eq_true rfl, Nat.le_of_ble_eq_true rfl⟩, hts _ LX10_faresOfAllHere_N_X0_fareOf, hts _ LX10_faresOfAllHere_E_X0_fareOf⟩ (q_preV hK hP (ci := 0) (q0 := 52) rfl rfl rfl (q_pre hN hK hP hD [11, 12, 13, 14, 15, 16, 17, 18, 19, 20, 21, 22, 23, 24, 25, 26, 27, 28, 29, 30, 31, 32, 33, 34, 35, 36, 37, 38, 39, 40, 41, 42, 43, 44, 45, 46, 47, 48, 49, 50, 51, 52, 53, 54, 55, 56, 57, 58, 59, 60, 61, 62, 63] rfl (by decide))) rfl rfl hl.1 rfl (lv_room (Nat.le_of_ble_eq_true rfl)) dX10_faresOfAllHere_37 ⟨Nat.le_of_ble_eq_true rfl, Nat.le_of_ble_eq_true rfl⟩) hP hD hS hA [11, 12, 13, 14, 15, 16, 17, 18, 19, 20, 21, 22, 23, 24, 25, 26, 27, 28, 29, 30, 31, 32, 33, 34, 35, 36, 37, 38, 39, 40, 41, 42, 43, 44, 45, 46, 47, 48, 49, 50, 51, 52, 53, 54, 55, 56, 57, 58, 59, 60, 61, 62, 63] [0, 1, 2, 3, 4, 5, 6, 7, 8, 9, 10] rfl rfl (by decide) (by decide) (fun r5 w1 H locs hw hP hD hS => ?_)
      obtain ⟨hq_, hw⟩ := hw; subst hw; subst hq_
      obtain ⟨s6, hs7, hB⟩ := letS_inv hB
      have hP : va_P (dC, dI) vwCl (wX cB cI cJ cZ cS a b b2 c0 rg sl s6) H := by subst hs7; exact hP
      have hD : va_D A (wX cB cI cJ cZ cS a b b2 c0 rg sl s6) := by subst hs7; exact hD
      refine lv_iadd hx hb dX10_faresOfAllHere_40 ?_
      refine lv_istore_n (lv' := [(1, .int (x1 + r5)), (0, .ref (c0 0)), (2, .int x2)]) hx hb dX10_faresOfAllHere_41 rfl hl (by decide) rfl (fun ls hl => ?_)
      exact bkX10_faresOfAllHere_42 (hk4) _ _ _ hB p e s0 m below meth c A E H locs ls hP hD hS (lv_sub hl [1, 0, 2] rfl)
theorem bkX10_faresOfAllHere_4L {l : Launch} {dC : Nat → ClassId} {dI : Nat → Nat → Nat} {cB cI cJ cZ cS : ClassId} {a b b2 c0 : Nat → Nat} {rg sl : Nat → Option Nat} {as : List Value} {r : Int32} {s' : XS} : ∀ (n : Nat) (s : XS) (x1 : Int32) (x2 : Int32), kX10_faresOfAllHere_4L n s x1 x2 = some (r, s') → BlkI l yX10_faresOfAllHere wsX10_faresOfAllHere ({ frames := 4, cells := 0, slots := 0, locals := 98 }) cX10_faresOfAllHere 3 (some .int) (dC, dI) (tysA cB cI cJ cZ cS) as 4 (wX cB cI cJ cZ cS a b b2 c0 rg sl s) [(0, .ref (c0 0)), (1, .int x1), (2, .int x2)] [] (fun x u => x = r ∧ u = (wX cB cI cJ cZ cS a b b2 c0 rg sl s')) := by
  intro n
  induction n with
  | zero => intro s x1 x2 hB; exact none_ne hB
  | succ n ih => intro s x1 x2 hB; exact bkX10_faresOfAllHere_4 ih _ _ _ hB
set_option maxHeartbeats 4000000 in
set_option maxRecDepth 100000 in
theorem bkX10_faresOfAllHere {l : Launch} {dC : Nat → ClassId} {dI : Nat → Nat → Nat} {cB cI cJ cZ cS : ClassId} {a b b2 c0 : Nat → Nat} {rg sl : Nat → Option Nat} {as : List Value} {r : Int32} {s' : XS} (s : XS) (hB : kX10_faresOfAllHere s = some (r, s')) : BlkI l yX10_faresOfAllHere wsX10_faresOfAllHere ({ frames := 4, cells := 0, slots := 0, locals := 98 }) cX10_faresOfAllHere 3 (some .int) (dC, dI) (tysA cB cI cJ cZ cS) as 0 (wX cB cI cJ cZ cS a b b2 c0 rg sl s) [(0, .ref (c0 0))] [] (fun x u => x = r ∧ u = (wX cB cI cJ cZ cS a b b2 c0 rg sl s')) := by
  intro p e s0 m below meth c A E H locs ls hP hD hS hl
  obtain ⟨C, hr, hlocks, hA, hK, hN⟩ := id E
  obtain ⟨hx, hb, hml, hown, hts⟩ := id C
  unfold kX10_faresOfAllHere at hB
  refine lv_iconst (v := 0) hx hb dX10_faresOfAllHere_0 (by decide) ?_
  refine lv_istore_n (lv' := [(1, .int 0), (0, .ref (c0 0))]) hx hb dX10_faresOfAllHere_1 rfl hl (by decide) rfl (fun ls hl => ?_)
  refine lv_iconst (v := 0) hx hb dX10_faresOfAllHere_2 (by decide) ?_
  refine lv_istore_n (lv' := [(2, .int 0), (1, .int 0), (0, .ref (c0 0))]) hx hb dX10_faresOfAllHere_3 rfl hl (by decide) rfl (fun ls hl => ?_)
  exact bkX10_faresOfAllHere_4L fu _ _ _ hB p e s0 m below meth c A E H locs ls hP hD hS (lv_sub hl [2, 1, 0] rfl)
theorem ckX10_faresOfAllHere {l : Launch} {dC : Nat → ClassId} {dI : Nat → Nat → Nat} {cB cI cJ cZ cS : ClassId} {a b b2 c0 : Nat → Nat} {rg sl : Nat → Option Nat} {r : Int32} {s' : XS} {s : XS} (hB : kX10_faresOfAllHere s = some (r, s')) : CI l yX10_faresOfAllHere wsX10_faresOfAllHere ({ frames := 4, cells := 0, slots := 0, locals := 98 }) (dC, dI) (tysA cB cI cJ cZ cS) (wX cB cI cJ cZ cS a b b2 c0 rg sl s) [.ref (c0 0)] (fun x u => x = r ∧ u = (wX cB cI cJ cZ cS a b b2 c0 rg sl s')) :=
  CI_of (cc := cX10_faresOfAllHere) (maxL := 3) (ret := (some .int)) (by decide) rfl (Nat.le_of_ble_eq_true rfl) (bkX10_faresOfAllHere _ hB)
theorem LX0_passYears_9 : Cond.fieldLink RX0 9 "GuessFerry$Crossing" "sound" "LGuessFerry$Sound;" ∈ wsX0_passYears := by decide +kernel
theorem inX0_passYears_X0 : ∀ w ∈ u_ws RX0 TX0 2, w ∈ wsX0_passYears := by decide +kernel
theorem inX0_passYears_X5 : ∀ w ∈ u_ws RX5 TX5 10, w ∈ wsX0_passYears := by decide +kernel
theorem inX0_passYears_X6 : ∀ w ∈ u_ws RX6 TX6 7, w ∈ wsX0_passYears := by decide +kernel
set_option maxHeartbeats 4000000 in
set_option maxRecDepth 100000 in
theorem bkX0_passYears_10 {l : Launch} {dC : Nat → ClassId} {dI : Nat → Nat → Nat} {cB cI cJ cZ cS : ClassId} {a b : Nat → Nat} {as : List Value} {s' : JS} {k2 : JS → Int32 → Int32 → Option JS} {k10 : JS → Int32 → Int32 → Int32 → Option JS} (hk2 : ∀ (s : JS) (x2 : Int32) (x3 : Int32), k2 s x2 x3 = some s' → BlkV l yX0_passYears wsX0_passYears ({ frames := 5, cells := 0, slots := 0, locals := 121 }) cX0_passYears 5 none (dC, dI) (tysA cB cI cJ cZ cS) as 2 (wJ cB cI cJ cZ cS a b s) [(0, .ref (a 35)), (1, .ref (b 0)), (2, .int x2), (3, .int x3)] [] (fun u => u = (wJ cB cI cJ cZ cS a b s'))) (hk10 : ∀ (s : JS) (x2 : Int32) (x3 : Int32) (x4 : Int32), k10 s x2 x3 x4 = some s' → BlkV l yX0_passYears wsX0_passYears ({ frames := 5, cells := 0, slots := 0, locals := 121 }) cX0_passYears 5 none (dC, dI) (tysA cB cI cJ cZ cS) as 10 (wJ cB cI cJ cZ cS a b s) [(0, .ref (a 35)), (1, .ref (b 0)), (2, .int x2), (3, .int x3), (4, .int x4)] [] (fun u => u = (wJ cB cI cJ cZ cS a b s'))) (s : JS) (x2 : Int32) (x3 : Int32) (x4 : Int32) (hB : kX0_passYears_10 k2 k10 s x2 x3 x4 = some s') : BlkV l yX0_passYears wsX0_passYears ({ frames := 5, cells := 0, slots := 0, locals := 121 }) cX0_passYears 5 none (dC, dI) (tysA cB cI cJ cZ cS) as 10 (wJ cB cI cJ cZ cS a b s) [(0, .ref (a 35)), (1, .ref (b 0)), (2, .int x2), (3, .int x3), (4, .int x4)] [] (fun u => u = (wJ cB cI cJ cZ cS a b s')) := by
  intro p e s0 m below meth c A E H locs ls hP hD hS hl
  obtain ⟨C, hr, hlocks, hA, hK, hN⟩ := id E
  obtain ⟨hx, hb, hml, hown, hts⟩ := id C
  unfold kX0_passYears_10 at hB
  refine lv_iload hx hb dX0_passYears_10 (lv_at hl 4 rfl) ?_
  refine lv_aload_n hx hb dX0_passYears_12 rfl (lv_at hl 0 rfl) ?_
  refine q_get (v := .ref (a 2)) C inX0_passYears_X0 hK hP 41 rfl rfl 0 (by decide) rfl LX0_passYears_9 rfl dX0_passYears_13 ?_
  refine q_getN (v := .int (s.k.v 1)) C hN inX0_passYears_X5 hK hP 8 rfl rfl 6 (by decide) rfl nwF_X0_50 rfl dX0_passYears_16 ?_
  refine lv_icmp_ge (tgt := 35) hx hb dX0_passYears_19 (by decide) (fun c1 => ?_) (fun c1 => ?_)
  · have hB := if_p hB c1
    refine lv_aload_n hx hb dX0_passYears_35 rfl (lv_at hl 1 rfl) ?_
    refine lv_dup hx hb dX0_passYears_36 rfl ?_
    refine q_getN (v := .int (s.d.v 5)) C hN inX0_passYears_X6 hK hP 0 rfl rfl 5 (by decide) rfl nwF_X0_59 rfl dX0_passYears_37 ?_
    refine lv_iconst (v := 1) hx hb dX0_passYears_40 (by decide) ?_
    refine lv_iadd hx hb dX0_passYears_41 ?_
    obtain ⟨s2, hs3, hB⟩ := letS_inv hB
    refine q_putN (ty := .int) (w2 := (wJ cB cI cJ cZ cS a b s2)) tyX6 tyX6_ok nmX6 C hN inX0_passYears_X6 hK hP hD hS 0 rfl rfl 5 (by decide) rfl nwF_X0_59 rfl (by decide +kernel) (rfl) rfl (Nat.le_of_ble_eq_true rfl) dX0_passYears_42 (by subst hs3; rfl) (fun H locs hP hD hS => ?_)
    refine lv_iinc (v := (x3 + 1)) (lv' := [(3, .int (x3 + 1)), (0, .ref (a 35)), (1, .ref (b 0)), (2, .int x2), (4, .int x4)]) hx hb dX0_passYears_45 hl (k := 3) rfl (rfl) (by decide) rfl (fun ls hl => ?_)
    refine lv_goto (tgt := 2) hx hb dX0_passYears_48 (by decide) ?_
    exact hk2 _ _ _ hB p e s0 m below meth c A E H locs ls hP hD hS (lv_sub hl [1, 2, 3, 0] rfl)
  · have hB := if_n hB c1
    refine lv_aload_n hx hb dX0_passYears_22 rfl (lv_at hl 0 rfl) ?_
    refine lv_aload_n hx hb dX0_passYears_23 rfl (lv_at hl 1 rfl) ?_
    refine lv_iload hx hb dX0_passYears_24 (lv_at hl 4 rfl) ?_
    obtain ⟨s4, hc, hB⟩ := bindP_inv hB
    refine q_govF (va_runV (As := [.ref (b 0), .int x4]) (rest := []) C (ckX0_passYearOver hc _) (cwV 2 hts gX0_passYears_X0_passYearOver rfl rfl rfl (by decide +kernel) ⟨Nat.le_of_ble_eq_true rfl, Nat.le_of_ble_eq_true rfl⟩) (q_preV hK hP (ci := 0) (q0 := 41) rfl rfl rfl (q_preF hN hK hP hD)) rfl rfl hl.1 rfl (lv_room (Nat.le_of_ble_eq_true rfl)) dX0_passYears_26 ⟨Nat.le_of_ble_eq_true rfl, Nat.le_of_ble_eq_true rfl⟩) hD hS hA (fun w1 H locs hw hP hD hS => ?_)
    subst hw
    refine lv_iinc (v := (x4 + 1)) (lv' := [(4, .int (x4 + 1)), (0, .ref (a 35)), (1, .ref (b 0)), (2, .int x2), (3, .int x3)]) hx hb dX0_passYears_29 hl (k := 4) rfl (rfl) (by decide) rfl (fun ls hl => ?_)
    refine lv_goto (tgt := 10) hx hb dX0_passYears_32 (by decide) ?_
    exact hk10 _ _ _ _ hB p e s0 m below meth c A E H locs ls hP hD hS (lv_sub hl [1, 2, 3, 4, 0] rfl)
theorem bkX0_passYears_10L {l : Launch} {dC : Nat → ClassId} {dI : Nat → Nat → Nat} {cB cI cJ cZ cS : ClassId} {a b : Nat → Nat} {as : List Value} {s' : JS} {k2 : JS → Int32 → Int32 → Option JS} (hk2 : ∀ (s : JS) (x2 : Int32) (x3 : Int32), k2 s x2 x3 = some s' → BlkV l yX0_passYears wsX0_passYears ({ frames := 5, cells := 0, slots := 0, locals := 121 }) cX0_passYears 5 none (dC, dI) (tysA cB cI cJ cZ cS) as 2 (wJ cB cI cJ cZ cS a b s) [(0, .ref (a 35)), (1, .ref (b 0)), (2, .int x2), (3, .int x3)] [] (fun u => u = (wJ cB cI cJ cZ cS a b s'))) : ∀ (n : Nat) (s : JS) (x2 : Int32) (x3 : Int32) (x4 : Int32), kX0_passYears_10L k2 n s x2 x3 x4 = some s' → BlkV l yX0_passYears wsX0_passYears ({ frames := 5, cells := 0, slots := 0, locals := 121 }) cX0_passYears 5 none (dC, dI) (tysA cB cI cJ cZ cS) as 10 (wJ cB cI cJ cZ cS a b s) [(0, .ref (a 35)), (1, .ref (b 0)), (2, .int x2), (3, .int x3), (4, .int x4)] [] (fun u => u = (wJ cB cI cJ cZ cS a b s')) := by
  intro n
  induction n with
  | zero => intro s x2 x3 x4 hB; exact none_ne hB
  | succ n ih => intro s x2 x3 x4 hB; exact bkX0_passYears_10 hk2 ih _ _ _ _ hB
set_option maxHeartbeats 4000000 in
set_option maxRecDepth 100000 in
theorem bkX0_passYears_2 {l : Launch} {dC : Nat → ClassId} {dI : Nat → Nat → Nat} {cB cI cJ cZ cS : ClassId} {a b : Nat → Nat} {as : List Value} {s' : JS} {k2 : JS → Int32 → Int32 → Option JS} (hk2 : ∀ (s : JS) (x2 : Int32) (x3 : Int32), k2 s x2 x3 = some s' → BlkV l yX0_passYears wsX0_passYears ({ frames := 5, cells := 0, slots := 0, locals := 121 }) cX0_passYears 5 none (dC, dI) (tysA cB cI cJ cZ cS) as 2 (wJ cB cI cJ cZ cS a b s) [(0, .ref (a 35)), (1, .ref (b 0)), (2, .int x2), (3, .int x3)] [] (fun u => u = (wJ cB cI cJ cZ cS a b s'))) (s : JS) (x2 : Int32) (x3 : Int32) (hB : kX0_passYears_2 k2 s x2 x3 = some s') : BlkV l yX0_passYears wsX0_passYears ({ frames := 5, cells := 0, slots := 0, locals := 121 }) cX0_passYears 5 none (dC, dI) (tysA cB cI cJ cZ cS) as 2 (wJ cB cI cJ cZ cS a b s) [(0, .ref (a 35)), (1, .ref (b 0)), (2, .int x2), (3, .int x3)] [] (fun u => u = (wJ cB cI cJ cZ cS a b s')) := by
  intro p e s0 m below meth c A E H locs ls hP hD hS hl
  obtain ⟨C, hr, hlocks, hA, hK, hN⟩ := id E
  obtain ⟨hx, hb, hml, hown, hts⟩ := id C
  unfold kX0_passYears_2 at hB
  refine lv_iload_n hx hb dX0_passYears_2 rfl (lv_at hl 3 rfl) ?_
  refine lv_iload_n hx hb dX0_passYears_3 rfl (lv_at hl 2 rfl) ?_
  refine lv_icmp_ge (tgt := 51) hx hb dX0_passYears_4 (by decide) (fun c1 => ?_) (fun c1 => ?_)
  · have hB := if_p hB c1
    exact q_vret C hr hlocks hK hP hD hS (Nat.le_of_ble_eq_true rfl) (Nat.le_of_ble_eq_true rfl) dX0_passYears_51 (by cases hB; rfl)
  · have hB := if_n hB c1
    refine lv_iconst (v := 0) hx hb dX0_passYears_7 (by decide) ?_
    refine lv_istore (lv' := [(4, .int 0), (0, .ref (a 35)), (1, .ref (b 0)), (2, .int x2), (3, .int x3)]) hx hb dX0_passYears_8 hl (by decide) rfl (fun ls hl => ?_)
    exact bkX0_passYears_10L (hk2) fu _ _ _ _ hB p e s0 m below meth c A E H locs ls hP hD hS (lv_sub hl [1, 2, 3, 4, 0] rfl)
theorem bkX0_passYears_2L {l : Launch} {dC : Nat → ClassId} {dI : Nat → Nat → Nat} {cB cI cJ cZ cS : ClassId} {a b : Nat → Nat} {as : List Value} {s' : JS} : ∀ (n : Nat) (s : JS) (x2 : Int32) (x3 : Int32), kX0_passYears_2L n s x2 x3 = some s' → BlkV l yX0_passYears wsX0_passYears ({ frames := 5, cells := 0, slots := 0, locals := 121 }) cX0_passYears 5 none (dC, dI) (tysA cB cI cJ cZ cS) as 2 (wJ cB cI cJ cZ cS a b s) [(0, .ref (a 35)), (1, .ref (b 0)), (2, .int x2), (3, .int x3)] [] (fun u => u = (wJ cB cI cJ cZ cS a b s')) := by
  intro n
  induction n with
  | zero => intro s x2 x3 hB; exact none_ne hB
  | succ n ih => intro s x2 x3 hB; exact bkX0_passYears_2 ih _ _ _ hB
set_option maxHeartbeats 4000000 in
set_option maxRecDepth 100000 in
theorem bkX0_passYears {l : Launch} {dC : Nat → ClassId} {dI : Nat → Nat → Nat} {cB cI cJ cZ cS : ClassId} {a b : Nat → Nat} {as : List Value} {s' : JS} (s : JS) (x2 : Int32) (hB : kX0_passYears s x2 = some s') : BlkV l yX0_passYears wsX0_passYears ({ frames := 5, cells := 0, slots := 0, locals := 121 }) cX0_passYears 5 none (dC, dI) (tysA cB cI cJ cZ cS) as 0 (wJ cB cI cJ cZ cS a b s) [(0, .ref (a 35)), (1, .ref (b 0)), (2, .int x2)] [] (fun u => u = (wJ cB cI cJ cZ cS a b s')) := by
  intro p e s0 m below meth c A E H locs ls hP hD hS hl
  obtain ⟨C, hr, hlocks, hA, hK, hN⟩ := id E
  obtain ⟨hx, hb, hml, hown, hts⟩ := id C
  unfold kX0_passYears at hB
  refine lv_iconst (v := 0) hx hb dX0_passYears_0 (by decide) ?_
  refine lv_istore_n (lv' := [(3, .int 0), (0, .ref (a 35)), (1, .ref (b 0)), (2, .int x2)]) hx hb dX0_passYears_1 rfl hl (by decide) rfl (fun ls hl => ?_)
  exact bkX0_passYears_2L fu _ _ _ hB p e s0 m below meth c A E H locs ls hP hD hS (lv_sub hl [1, 2, 3, 0] rfl)
theorem ckX0_passYears {l : Launch} {dC : Nat → ClassId} {dI : Nat → Nat → Nat} {cB cI cJ cZ cS : ClassId} {a b : Nat → Nat} {s' : JS} {s : JS} {x2 : Int32} (hB : kX0_passYears s x2 = some s') : CV l yX0_passYears wsX0_passYears ({ frames := 5, cells := 0, slots := 0, locals := 121 }) (dC, dI) (tysA cB cI cJ cZ cS) (wJ cB cI cJ cZ cS a b s) [.ref (a 35), .ref (b 0), .int x2] (fun u => u = (wJ cB cI cJ cZ cS a b s')) :=
  CV_of (cc := cX0_passYears) (maxL := 5) (ret := none) (by decide) rfl (Nat.le_of_ble_eq_true rfl) (bkX0_passYears _ _ hB)
theorem LX2_bestGuess_24 : Cond.fieldLink RX2 24 "GuessFerry$Outlook" "sound" "LGuessFerry$Sound;" ∈ wsX2_bestGuess := by decide +kernel
theorem inX2_bestGuess_X2 : ∀ w ∈ u_ws RX2 TX2 6, w ∈ wsX2_bestGuess := by decide +kernel
theorem inX2_bestGuess_X5 : ∀ w ∈ u_ws RX5 TX5 10, w ∈ wsX2_bestGuess := by decide +kernel
set_option maxHeartbeats 4000000 in
set_option maxRecDepth 100000 in
theorem bkX2_bestGuess_13 {l : Launch} {dC : Nat → ClassId} {dI : Nat → Nat → Nat} {cB cI cJ cZ cS : ClassId} {a b : Nat → Nat} {as : List Value} {r : Int32} {s' : JS} {k13 : JS → Int32 → Int32 → Int32 → Option (Int32 × JS)} (hk13 : ∀ (s : JS) (x2 : Int32) (x3 : Int32) (x4 : Int32), k13 s x2 x3 x4 = some (r, s') → BlkI l yX2_bestGuess wsX2_bestGuess ({ frames := 5, cells := 0, slots := 0, locals := 127 }) cX2_bestGuess 6 (some .int) (dC, dI) (tysA cB cI cJ cZ cS) as 13 (wJ cB cI cJ cZ cS a b s) [(0, .ref (a 36)), (1, .ref (b 0)), (2, .int x2), (3, .int x3), (4, .int x4)] [] (fun x u => x = r ∧ u = (wJ cB cI cJ cZ cS a b s'))) (s : JS) (x2 : Int32) (x3 : Int32) (x4 : Int32) (hB : kX2_bestGuess_13 k13 s x2 x3 x4 = some (r, s')) : BlkI l yX2_bestGuess wsX2_bestGuess ({ frames := 5, cells := 0, slots := 0, locals := 127 }) cX2_bestGuess 6 (some .int) (dC, dI) (tysA cB cI cJ cZ cS) as 13 (wJ cB cI cJ cZ cS a b s) [(0, .ref (a 36)), (1, .ref (b 0)), (2, .int x2), (3, .int x3), (4, .int x4)] [] (fun x u => x = r ∧ u = (wJ cB cI cJ cZ cS a b s')) := by
  intro p e s0 m below meth c A E H locs ls hP hD hS hl
  obtain ⟨C, hr, hlocks, hA, hK, hN⟩ := id E
  obtain ⟨hx, hb, hml, hown, hts⟩ := id C
  unfold kX2_bestGuess_13 at hB
  refine lv_iload hx hb dX2_bestGuess_13 (lv_at hl 4 rfl) ?_
  refine lv_if_lt (tgt := 51) hx hb dX2_bestGuess_15 (by decide) (fun c1 => ?_) (fun c1 => ?_)
  · have hB := if_p hB c1
    refine lv_iload_n hx hb dX2_bestGuess_51 rfl (lv_at hl 3 rfl) ?_
    exact q_iret C hr hlocks hK hP hD hS (Nat.le_of_ble_eq_true rfl) (Nat.le_of_ble_eq_true rfl) dX2_bestGuess_52 (by cases hB; exact ⟨rfl, rfl⟩)
  · have hB := if_n hB c1
    refine lv_aload_n hx hb dX2_bestGuess_18 rfl (lv_at hl 0 rfl) ?_
    refine lv_aload_n hx hb dX2_bestGuess_19 rfl (lv_at hl 1 rfl) ?_
    refine lv_iload_n hx hb dX2_bestGuess_20 rfl (lv_at hl 2 rfl) ?_
    refine lv_iload hx hb dX2_bestGuess_21 (lv_at hl 4 rfl) ?_
    obtain ⟨q_, s2, hc, hB⟩ := bindI_inv hB
    refine q_goiF (va_runV (As := [.ref (b 0), .int x2, .int x4]) (rest := []) C (ckX2_bestThing hc _) (cwV 3 hts gX2_bestGuess_X2_bestThing rfl rfl rfl (by decide +kernel) ⟨Nat.le_of_ble_eq_true rfl, Nat.le_of_ble_eq_true rfl⟩) (q_preV hK hP (ci := 2) (q0 := 42) rfl rfl rfl (q_preF hN hK hP hD)) rfl rfl hl.1 rfl (lv_room (Nat.le_of_ble_eq_true rfl)) dX2_bestGuess_23 ⟨Nat.le_of_ble_eq_true rfl, Nat.le_of_ble_eq_true rfl⟩) hD hS hA (fun r3 w1 H locs hw hP hD hS => ?_)
    obtain ⟨hq_, hw⟩ := hw; subst hw; subst hq_
    refine lv_istore (lv' := [(5, .int r3), (0, .ref (a 36)), (1, .ref (b 0)), (2, .int x2), (3, .int x3), (4, .int x4)]) hx hb dX2_bestGuess_26 hl (by decide) rfl (fun ls hl => ?_)
    refine lv_iload hx hb dX2_bestGuess_28 (lv_at hl 0 rfl) ?_
    refine lv_iconst (v := (-1)) hx hb dX2_bestGuess_30 (by decide) ?_
    refine lv_icmp_ne (tgt := 37) hx hb dX2_bestGuess_31 (by decide) (fun c4 => ?_) (fun c4 => ?_)
    · have hB := if_n hB c4
      refine lv_iload_n hx hb dX2_bestGuess_37 rfl (lv_at hl 4 rfl) ?_
      refine lv_bipush (v := 6) hx hb dX2_bestGuess_38 (by decide) ?_
      refine lv_imul hx hb dX2_bestGuess_40 ?_
      refine lv_iload hx hb dX2_bestGuess_41 (lv_at hl 0 rfl) ?_
      refine lv_iadd hx hb dX2_bestGuess_43 ?_
      refine lv_istore_n (lv' := [(3, .int ((x3 * 6) + r3)), (5, .int r3), (0, .ref (a 36)), (1, .ref (b 0)), (2, .int x2), (4, .int x4)]) hx hb dX2_bestGuess_44 rfl hl (by decide) rfl (fun ls hl => ?_)
      refine lv_iinc (v := (x4 + (-1))) (lv' := [(4, .int (x4 + (-1))), (3, .int ((x3 * 6) + r3)), (5, .int r3), (0, .ref (a 36)), (1, .ref (b 0)), (2, .int x2)]) hx hb dX2_bestGuess_45 hl (k := 5) rfl (rfl) (by decide) rfl (fun ls hl => ?_)
      refine lv_goto (tgt := 13) hx hb dX2_bestGuess_48 (by decide) ?_
      exact hk13 _ _ _ _ hB p e s0 m below meth c A E H locs ls hP hD hS (lv_sub hl [3, 4, 5, 1, 0] rfl)
    · have hB := if_p hB c4
      refine lv_bipush (v := (-2)) hx hb dX2_bestGuess_34 (by decide) ?_
      exact q_iret C hr hlocks hK hP hD hS (Nat.le_of_ble_eq_true rfl) (Nat.le_of_ble_eq_true rfl) dX2_bestGuess_36 (by cases hB; exact ⟨rfl, rfl⟩)
theorem bkX2_bestGuess_13L {l : Launch} {dC : Nat → ClassId} {dI : Nat → Nat → Nat} {cB cI cJ cZ cS : ClassId} {a b : Nat → Nat} {as : List Value} {r : Int32} {s' : JS} : ∀ (n : Nat) (s : JS) (x2 : Int32) (x3 : Int32) (x4 : Int32), kX2_bestGuess_13L n s x2 x3 x4 = some (r, s') → BlkI l yX2_bestGuess wsX2_bestGuess ({ frames := 5, cells := 0, slots := 0, locals := 127 }) cX2_bestGuess 6 (some .int) (dC, dI) (tysA cB cI cJ cZ cS) as 13 (wJ cB cI cJ cZ cS a b s) [(0, .ref (a 36)), (1, .ref (b 0)), (2, .int x2), (3, .int x3), (4, .int x4)] [] (fun x u => x = r ∧ u = (wJ cB cI cJ cZ cS a b s')) := by
  intro n
  induction n with
  | zero => intro s x2 x3 x4 hB; exact none_ne hB
  | succ n ih => intro s x2 x3 x4 hB; exact bkX2_bestGuess_13 ih _ _ _ _ hB
set_option maxHeartbeats 4000000 in
set_option maxRecDepth 100000 in
theorem bkX2_bestGuess {l : Launch} {dC : Nat → ClassId} {dI : Nat → Nat → Nat} {cB cI cJ cZ cS : ClassId} {a b : Nat → Nat} {as : List Value} {r : Int32} {s' : JS} (s : JS) (x2 : Int32) (hB : kX2_bestGuess s x2 = some (r, s')) : BlkI l yX2_bestGuess wsX2_bestGuess ({ frames := 5, cells := 0, slots := 0, locals := 127 }) cX2_bestGuess 6 (some .int) (dC, dI) (tysA cB cI cJ cZ cS) as 0 (wJ cB cI cJ cZ cS a b s) [(0, .ref (a 36)), (1, .ref (b 0)), (2, .int x2)] [] (fun x u => x = r ∧ u = (wJ cB cI cJ cZ cS a b s')) := by
  intro p e s0 m below meth c A E H locs ls hP hD hS hl
  obtain ⟨C, hr, hlocks, hA, hK, hN⟩ := id E
  obtain ⟨hx, hb, hml, hown, hts⟩ := id C
  unfold kX2_bestGuess at hB
  refine lv_iconst (v := 0) hx hb dX2_bestGuess_0 (by decide) ?_
  refine lv_istore_n (lv' := [(3, .int 0), (0, .ref (a 36)), (1, .ref (b 0)), (2, .int x2)]) hx hb dX2_bestGuess_1 rfl hl (by decide) rfl (fun ls hl => ?_)
  refine lv_aload_n hx hb dX2_bestGuess_2 rfl (lv_at hl 1 rfl) ?_
  refine q_get (v := .ref (a 2)) C inX2_bestGuess_X2 hK hP 42 rfl rfl 0 (by decide) rfl LX2_bestGuess_24 rfl dX2_bestGuess_3 ?_
  refine q_getN (v := .int (s.k.v 1)) C hN inX2_bestGuess_X5 hK hP 8 rfl rfl 6 (by decide) rfl nwF_X2_44 rfl dX2_bestGuess_6 ?_
  refine lv_iconst (v := 1) hx hb dX2_bestGuess_9 (by decide) ?_
  refine lv_isub hx hb dX2_bestGuess_10 ?_
  refine lv_istore (lv' := [(4, .int ((s.k.v 1) - 1)), (3, .int 0), (0, .ref (a 36)), (1, .ref (b 0)), (2, .int x2)]) hx hb dX2_bestGuess_11 hl (by decide) rfl (fun ls hl => ?_)
  exact bkX2_bestGuess_13L fu _ _ _ _ hB p e s0 m below meth c A E H locs ls hP hD hS (lv_sub hl [2, 3, 4, 1, 0] rfl)
theorem ckX2_bestGuess {l : Launch} {dC : Nat → ClassId} {dI : Nat → Nat → Nat} {cB cI cJ cZ cS : ClassId} {a b : Nat → Nat} {r : Int32} {s' : JS} {s : JS} {x2 : Int32} (hB : kX2_bestGuess s x2 = some (r, s')) : CI l yX2_bestGuess wsX2_bestGuess ({ frames := 5, cells := 0, slots := 0, locals := 127 }) (dC, dI) (tysA cB cI cJ cZ cS) (wJ cB cI cJ cZ cS a b s) [.ref (a 36), .ref (b 0), .int x2] (fun x u => x = r ∧ u = (wJ cB cI cJ cZ cS a b s')) :=
  CI_of (cc := cX2_bestGuess) (maxL := 6) (ret := (some .int)) (by decide) rfl (Nat.le_of_ble_eq_true rfl) (bkX2_bestGuess _ _ hB)
