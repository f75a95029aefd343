theorem ggX10_then_X5_hasWave : GoodIn wsX10_then wsX5_hasWave := gi_sub (fun w h => List.mem_cons_of_mem _ (List.mem_append_left _ (List.mem_append_left _ (List.mem_append_left _ (List.mem_append_left _ (List.mem_append_left _ (List.mem_append_right _ (List.mem_append_left _ h)))))))) gd_wsX5_hasWave
set_option maxRecDepth 20000 in
theorem gX10_then_X5_hasWave_n108 : GoodIn wsX10_then (wsX5_hasWave) := ggX10_then_X5_hasWave
theorem ggX10_then_X6_copyFrom : GoodIn wsX10_then wsX6_copyFrom := gi_sub (fun w h => List.mem_cons_of_mem _ (List.mem_append_left _ (List.mem_append_left _ (List.mem_append_left _ (List.mem_append_left _ (List.mem_append_left _ (List.mem_append_right _ (List.mem_append_right _ (List.mem_append_left _ h))))))))) gd_wsX6_copyFrom
set_option maxRecDepth 20000 in
theorem gX10_then_X6_copyFrom_n227 : GoodIn wsX10_then (wsX6_copyFrom) := ggX10_then_X6_copyFrom
theorem ggX10_then_X0_passYears : GoodIn wsX10_then wsX0_passYears := gi_sub (fun w h => List.mem_cons_of_mem _ (List.mem_append_left _ (List.mem_append_left _ (List.mem_append_left _ (List.mem_append_left _ (List.mem_append_left _ (List.mem_append_right _ (List.mem_append_right _ (List.mem_append_right _ (List.mem_append_left _ h)))))))))) gd_wsX0_passYears
set_option maxRecDepth 20000 in
theorem gX10_then_X0_passYears_n185 : GoodIn wsX10_then (wsX0_passYears) := ggX10_then_X0_passYears
theorem ggX10_then_X0_mayBe : GoodIn wsX10_then wsX0_mayBe := gi_sub (fun w h => List.mem_cons_of_mem _ (List.mem_append_left _ (List.mem_append_left _ (List.mem_append_left _ (List.mem_append_left _ (List.mem_append_left _ (List.mem_append_right _ (List.mem_append_right _ (List.mem_append_right _ (List.mem_append_right _ (List.mem_append_left _ h))))))))))) gd_wsX0_mayBe
set_option maxRecDepth 20000 in
theorem gX10_then_X0_mayBe_n111 : GoodIn wsX10_then (wsX0_mayBe) := ggX10_then_X0_mayBe
theorem ggX10_then_X0_thereNow : GoodIn wsX10_then wsX0_thereNow := gi_sub (fun w h => List.mem_cons_of_mem _ (List.mem_append_left _ (List.mem_append_left _ (List.mem_append_left _ (List.mem_append_left _ (List.mem_append_left _ (List.mem_append_right _ (List.mem_append_right _ (List.mem_append_right _ (List.mem_append_right _ (List.mem_append_right _ h))))))))))) gd_wsX0_thereNow
set_option maxRecDepth 20000 in
theorem gX10_then_X0_thereNow_n125 : GoodIn wsX10_then (wsX0_thereNow) := ggX10_then_X0_thereNow
theorem dX10_then_0 : decode cX10_then 0 = .ok (.aload_n 0, 1) := dc1_42 (by decide +kernel)
theorem dX10_then_1 : decode cX10_then 1 = .ok (.getfield 19, 3) := dcw_180 (by decide +kernel)
theorem dX10_then_4 : decode cX10_then 4 = .ok (.iload_n 1, 1) := dc1_27 (by decide +kernel)
theorem dX10_then_5 : decode cX10_then 5 = .ok (.invokevirtual 108, 3) := dcw_182 (by decide +kernel)
theorem dX10_then_8 : decode cX10_then 8 = .ok (.ifCond .eq 13, 3) := dcs_153 (n := 13) (by decide +kernel)
theorem dX10_then_11 : decode cX10_then 11 = .ok (.iload_n 2, 1) := dc1_28 (by decide +kernel)
theorem dX10_then_12 : decode cX10_then 12 = .ok (.ifCond .lt 9, 3) := dcs_155 (n := 9) (by decide +kernel)
theorem dX10_then_15 : decode cX10_then 15 = .ok (.iload_n 2, 1) := dc1_28 (by decide +kernel)
theorem dX10_then_16 : decode cX10_then 16 = .ok (.bipush 40, 2) := dcb_16 (n := 40) (by decide +kernel)
theorem dX10_then_18 : decode cX10_then 18 = .ok (.if_icmp .le 5, 3) := dcs_164 (n := 5) (by decide +kernel)
theorem dX10_then_21 : decode cX10_then 21 = .ok (.iconst (-1), 1) := dc1_2 (by decide +kernel)
theorem dX10_then_22 : decode cX10_then 22 = .ok (.ireturn, 1) := dc1_172 (by decide +kernel)
theorem dX10_then_23 : decode cX10_then 23 = .ok (.aload_n 0, 1) := dc1_42 (by decide +kernel)
theorem dX10_then_24 : decode cX10_then 24 = .ok (.getfield 39, 3) := dcw_180 (by decide +kernel)
theorem dX10_then_27 : decode cX10_then 27 = .ok (.aload_n 0, 1) := dc1_42 (by decide +kernel)
theorem dX10_then_28 : decode cX10_then 28 = .ok (.getfield 35, 3) := dcw_180 (by decide +kernel)
theorem dX10_then_31 : decode cX10_then 31 = .ok (.invokevirtual 227, 3) := dcw_182 (by decide +kernel)
theorem dX10_then_34 : decode cX10_then 34 = .ok (.aload_n 0, 1) := dc1_42 (by decide +kernel)
theorem dX10_then_35 : decode cX10_then 35 = .ok (.getfield 54, 3) := dcw_180 (by decide +kernel)
theorem dX10_then_38 : decode cX10_then 38 = .ok (.aload_n 0, 1) := dc1_42 (by decide +kernel)
theorem dX10_then_39 : decode cX10_then 39 = .ok (.getfield 39, 3) := dcw_180 (by decide +kernel)
theorem dX10_then_42 : decode cX10_then 42 = .ok (.iload_n 2, 1) := dc1_28 (by decide +kernel)
theorem dX10_then_43 : decode cX10_then 43 = .ok (.invokevirtual 185, 3) := dcw_182 (by decide +kernel)
theorem dX10_then_46 : decode cX10_then 46 = .ok (.iload_n 3, 1) := dc1_29 (by decide +kernel)
theorem dX10_then_47 : decode cX10_then 47 = .ok (.tableswitch 61 0 2 #[25, 38, 48], 25) := by decide +kernel
theorem dX10_then_72 : decode cX10_then 72 = .ok (.aload_n 0, 1) := dc1_42 (by decide +kernel)
theorem dX10_then_73 : decode cX10_then 73 = .ok (.getfield 54, 3) := dcw_180 (by decide +kernel)
theorem dX10_then_76 : decode cX10_then 76 = .ok (.aload_n 0, 1) := dc1_42 (by decide +kernel)
theorem dX10_then_77 : decode cX10_then 77 = .ok (.getfield 39, 3) := dcw_180 (by decide +kernel)
theorem dX10_then_80 : decode cX10_then 80 = .ok (.iload_n 1, 1) := dc1_27 (by decide +kernel)
theorem dX10_then_81 : decode cX10_then 81 = .ok (.invokevirtual 111, 3) := dcw_182 (by decide +kernel)
theorem dX10_then_84 : decode cX10_then 84 = .ok (.ireturn, 1) := dc1_172 (by decide +kernel)
theorem dX10_then_85 : decode cX10_then 85 = .ok (.aload_n 0, 1) := dc1_42 (by decide +kernel)
theorem dX10_then_86 : decode cX10_then 86 = .ok (.getfield 39, 3) := dcw_180 (by decide +kernel)
theorem dX10_then_89 : decode cX10_then 89 = .ok (.getfield 122, 3) := dcw_180 (by decide +kernel)
theorem dX10_then_92 : decode cX10_then 92 = .ok (.iload_n 1, 1) := dc1_27 (by decide +kernel)
theorem dX10_then_93 : decode cX10_then 93 = .ok (.iaload, 1) := dc1_46 (by decide +kernel)
theorem dX10_then_94 : decode cX10_then 94 = .ok (.ireturn, 1) := dc1_172 (by decide +kernel)
theorem dX10_then_95 : decode cX10_then 95 = .ok (.aload_n 0, 1) := dc1_42 (by decide +kernel)
theorem dX10_then_96 : decode cX10_then 96 = .ok (.getfield 54, 3) := dcw_180 (by decide +kernel)
theorem dX10_then_99 : decode cX10_then 99 = .ok (.aload_n 0, 1) := dc1_42 (by decide +kernel)
theorem dX10_then_100 : decode cX10_then 100 = .ok (.getfield 39, 3) := dcw_180 (by decide +kernel)
theorem dX10_then_103 : decode cX10_then 103 = .ok (.iload_n 1, 1) := dc1_27 (by decide +kernel)
theorem dX10_then_104 : decode cX10_then 104 = .ok (.invokevirtual 125, 3) := dcw_182 (by decide +kernel)
theorem dX10_then_107 : decode cX10_then 107 = .ok (.ireturn, 1) := dc1_172 (by decide +kernel)
theorem dX10_then_108 : decode cX10_then 108 = .ok (.iconst (-1), 1) := dc1_2 (by decide +kernel)
theorem dX10_then_109 : decode cX10_then 109 = .ok (.ireturn, 1) := dc1_172 (by decide +kernel)
theorem ggX10_next_X5_hasWave : GoodIn wsX10_next wsX5_hasWave := gi_sub (fun w h => List.mem_cons_of_mem _ (List.mem_append_left _ (List.mem_append_left _ (List.mem_append_left _ (List.mem_append_left _ (List.mem_append_left _ (List.mem_append_right _ (List.mem_append_left _ h)))))))) gd_wsX5_hasWave
set_option maxRecDepth 20000 in
theorem gX10_next_X5_hasWave_n108 : GoodIn wsX10_next (wsX5_hasWave) := ggX10_next_X5_hasWave
theorem ggX10_next_X6_copyFrom : GoodIn wsX10_next wsX6_copyFrom := gi_sub (fun w h => List.mem_cons_of_mem _ (List.mem_append_left _ (List.mem_append_left _ (List.mem_append_left _ (List.mem_append_left _ (List.mem_append_left _ (List.mem_append_right _ (List.mem_append_right _ (List.mem_append_left _ h))))))))) gd_wsX6_copyFrom
set_option maxRecDepth 20000 in
theorem gX10_next_X6_copyFrom_n227 : GoodIn wsX10_next (wsX6_copyFrom) := ggX10_next_X6_copyFrom
theorem ggX10_next_X0_passYears : GoodIn wsX10_next wsX0_passYears := gi_sub (fun w h => List.mem_cons_of_mem _ (List.mem_append_left _ (List.mem_append_left _ (List.mem_append_left _ (List.mem_append_left _ (List.mem_append_left _ (List.mem_append_right _ (List.mem_append_right _ (List.mem_append_right _ h))))))))) gd_wsX0_passYears
set_option maxRecDepth 20000 in
theorem gX10_next_X0_passYears_n185 : GoodIn wsX10_next (wsX0_passYears) := ggX10_next_X0_passYears
theorem dX10_next_0 : decode cX10_next 0 = .ok (.aload_n 0, 1) := dc1_42 (by decide +kernel)
theorem dX10_next_1 : decode cX10_next 1 = .ok (.getfield 19, 3) := dcw_180 (by decide +kernel)
theorem dX10_next_4 : decode cX10_next 4 = .ok (.iload_n 1, 1) := dc1_27 (by decide +kernel)
theorem dX10_next_5 : decode cX10_next 5 = .ok (.invokevirtual 108, 3) := dcw_182 (by decide +kernel)
theorem dX10_next_8 : decode cX10_next 8 = .ok (.ifCond .ne 5, 3) := dcs_154 (n := 5) (by decide +kernel)
theorem dX10_next_11 : decode cX10_next 11 = .ok (.iconst (-1), 1) := dc1_2 (by decide +kernel)
theorem dX10_next_12 : decode cX10_next 12 = .ok (.ireturn, 1) := dc1_172 (by decide +kernel)
theorem dX10_next_13 : decode cX10_next 13 = .ok (.aload_n 0, 1) := dc1_42 (by decide +kernel)
theorem dX10_next_14 : decode cX10_next 14 = .ok (.getfield 39, 3) := dcw_180 (by decide +kernel)
theorem dX10_next_17 : decode cX10_next 17 = .ok (.aload_n 0, 1) := dc1_42 (by decide +kernel)
theorem dX10_next_18 : decode cX10_next 18 = .ok (.getfield 35, 3) := dcw_180 (by decide +kernel)
theorem dX10_next_21 : decode cX10_next 21 = .ok (.invokevirtual 227, 3) := dcw_182 (by decide +kernel)
theorem dX10_next_24 : decode cX10_next 24 = .ok (.iconst 1, 1) := dc1_4 (by decide +kernel)
theorem dX10_next_25 : decode cX10_next 25 = .ok (.istore_n 2, 1) := dc1_61 (by decide +kernel)
theorem dX10_next_26 : decode cX10_next 26 = .ok (.iload_n 2, 1) := dc1_28 (by decide +kernel)
theorem dX10_next_27 : decode cX10_next 27 = .ok (.bipush 40, 2) := dcb_16 (n := 40) (by decide +kernel)
theorem dX10_next_29 : decode cX10_next 29 = .ok (.if_icmp .gt 44, 3) := dcs_163 (n := 44) (by decide +kernel)
theorem dX10_next_32 : decode cX10_next 32 = .ok (.aload_n 0, 1) := dc1_42 (by decide +kernel)
theorem dX10_next_33 : decode cX10_next 33 = .ok (.getfield 54, 3) := dcw_180 (by decide +kernel)
theorem dX10_next_36 : decode cX10_next 36 = .ok (.aload_n 0, 1) := dc1_42 (by decide +kernel)
theorem dX10_next_37 : decode cX10_next 37 = .ok (.getfield 39, 3) := dcw_180 (by decide +kernel)
theorem dX10_next_40 : decode cX10_next 40 = .ok (.iconst 1, 1) := dc1_4 (by decide +kernel)
theorem dX10_next_41 : decode cX10_next 41 = .ok (.invokevirtual 185, 3) := dcw_182 (by decide +kernel)
theorem dX10_next_44 : decode cX10_next 44 = .ok (.aload_n 0, 1) := dc1_42 (by decide +kernel)
theorem dX10_next_45 : decode cX10_next 45 = .ok (.getfield 39, 3) := dcw_180 (by decide +kernel)
theorem dX10_next_48 : decode cX10_next 48 = .ok (.getfield 122, 3) := dcw_180 (by decide +kernel)
theorem dX10_next_51 : decode cX10_next 51 = .ok (.iload_n 1, 1) := dc1_27 (by decide +kernel)
theorem dX10_next_52 : decode cX10_next 52 = .ok (.iaload, 1) := dc1_46 (by decide +kernel)
theorem dX10_next_53 : decode cX10_next 53 = .ok (.aload_n 0, 1) := dc1_42 (by decide +kernel)
theorem dX10_next_54 : decode cX10_next 54 = .ok (.getfield 35, 3) := dcw_180 (by decide +kernel)
theorem dX10_next_57 : decode cX10_next 57 = .ok (.getfield 122, 3) := dcw_180 (by decide +kernel)
theorem dX10_next_60 : decode cX10_next 60 = .ok (.iload_n 1, 1) := dc1_27 (by decide +kernel)
theorem dX10_next_61 : decode cX10_next 61 = .ok (.iaload, 1) := dc1_46 (by decide +kernel)
theorem dX10_next_62 : decode cX10_next 62 = .ok (.if_icmp .eq 5, 3) := dcs_159 (n := 5) (by decide +kernel)
theorem dX10_next_65 : decode cX10_next 65 = .ok (.iload_n 2, 1) := dc1_28 (by decide +kernel)
theorem dX10_next_66 : decode cX10_next 66 = .ok (.ireturn, 1) := dc1_172 (by decide +kernel)
theorem dX10_next_67 : decode cX10_next 67 = .ok (.iinc 2 1, 3) := dc_iinc (m := 1) (by decide +kernel)
theorem dX10_next_70 : decode cX10_next 70 = .ok (.goto (-44), 3) := dcs_167 (n := 65492) (by decide +kernel)
theorem dX10_next_73 : decode cX10_next 73 = .ok (.bipush (-2), 2) := dcb_16 (n := 254) (by decide +kernel)
theorem dX10_next_75 : decode cX10_next 75 = .ok (.ireturn, 1) := dc1_172 (by decide +kernel)
theorem ggX10_count_X10_partiesThatAre : GoodIn wsX10_count wsX10_partiesThatAre := gi_sub (fun w h => List.mem_cons_of_mem _ (List.mem_append_left _ (List.mem_append_left _ (List.mem_append_left _ (List.mem_append_left _ (List.mem_append_left _ (List.mem_append_left _ (List.mem_append_left _ (List.mem_append_left _ (List.mem_append_right _ (List.mem_append_left _ h))))))))))) gd_wsX10_partiesThatAre
set_option maxRecDepth 20000 in
theorem gX10_count_X10_partiesThatAre : GoodIn wsX10_count (wsV RX10 244 RX10 yX10_partiesThatAre wsX10_partiesThatAre) := goodIn_app (goodIn_r _ [7, 8, 9, 10] (by decide +kernel) (by decide +kernel)) ggX10_count_X10_partiesThatAre
theorem ggX10_count_X10_sumOf : GoodIn wsX10_count wsX10_sumOf := gi_sub (fun w h => List.mem_cons_of_mem _ (List.mem_append_left _ (List.mem_append_left _ (List.mem_append_left _ (List.mem_append_left _ (List.mem_append_left _ (List.mem_append_left _ (List.mem_append_left _ (List.mem_append_left _ (List.mem_append_right _ (List.mem_append_right _ (List.mem_append_left _ h)))))))))))) gd_wsX10_sumOf
set_option maxRecDepth 20000 in
theorem gX10_count_X10_sumOf : GoodIn wsX10_count (va_wsS RX10 289 yX10_sumOf wsX10_sumOf) := goodIn_app (goodIn_of _ (by decide +kernel)) ggX10_count_X10_sumOf
theorem ggX10_count_X3_slotsHeld : GoodIn wsX10_count wsX3_slotsHeld := gi_sub (fun w h => List.mem_cons_of_mem _ (List.mem_append_left _ (List.mem_append_left _ (List.mem_append_left _ (List.mem_append_left _ (List.mem_append_left _ (List.mem_append_left _ (List.mem_append_left _ (List.mem_append_left _ (List.mem_append_right _ (List.mem_append_right _ (List.mem_append_right _ (List.mem_append_left _ h))))))))))))) gd_wsX3_slotsHeld
set_option maxRecDepth 20000 in
theorem gX10_count_X3_slotsHeld_n296 : GoodIn wsX10_count (wsX3_slotsHeld) := ggX10_count_X3_slotsHeld
theorem ggX10_count_X10_buoysLying : GoodIn wsX10_count wsX10_buoysLying := gi_sub (fun w h => List.mem_cons_of_mem _ (List.mem_append_left _ (List.mem_append_left _ (List.mem_append_left _ (List.mem_append_left _ (List.mem_append_left _ (List.mem_append_left _ (List.mem_append_left _ (List.mem_append_left _ (List.mem_append_right _ (List.mem_append_right _ (List.mem_append_right _ (List.mem_append_right _ (List.mem_append_left _ h)))))))))))))) gd_wsX10_buoysLying
set_option maxRecDepth 20000 in
theorem gX10_count_X10_buoysLying : GoodIn wsX10_count (wsV RX10 299 RX10 yX10_buoysLying wsX10_buoysLying) := goodIn_app (goodIn_r _ [16, 17, 18, 10] (by decide +kernel) (by decide +kernel)) ggX10_count_X10_buoysLying
theorem ggX10_count_X10_wavesFound : GoodIn wsX10_count wsX10_wavesFound := gi_sub (fun w h => List.mem_cons_of_mem _ (List.mem_append_left _ (List.mem_append_left _ (List.mem_append_left _ (List.mem_append_left _ (List.mem_append_left _ (List.mem_append_left _ (List.mem_append_left _ (List.mem_append_left _ (List.mem_append_right _ (List.mem_append_right _ (List.mem_append_right _ (List.mem_append_right _ (List.mem_append_right _ (List.mem_append_left _ h))))))))))))))) gd_wsX10_wavesFound
set_option maxRecDepth 20000 in
theorem gX10_count_X10_wavesFound : GoodIn wsX10_count (wsV RX10 302 RX10 yX10_wavesFound wsX10_wavesFound) := goodIn_app (goodIn_r _ [20, 21, 22, 10] (by decide +kernel) (by decide +kernel)) ggX10_count_X10_wavesFound
theorem ggX10_count_X0_guessThere : GoodIn wsX10_count wsX0_guessThere := gi_sub (fun w h => List.mem_cons_of_mem _ (List.mem_append_left _ (List.mem_append_left _ (List.mem_append_left _ (List.mem_append_left _ (List.mem_append_left _ (List.mem_append_left _ (List.mem_append_left _ (List.mem_append_left _ (List.mem_append_right _ (List.mem_append_right _ (List.mem_append_right _ (List.mem_append_right _ (List.mem_append_right _ (List.mem_append_right _ (List.mem_append_left _ h)))))))))))))))) gd_wsX0_guessThere
set_option maxRecDepth 20000 in
theorem gX10_count_X0_guessThere_n256 : GoodIn wsX10_count (wsX0_guessThere) := ggX10_count_X0_guessThere
theorem ggX10_count_X10_wavesWithNothing : GoodIn wsX10_count wsX10_wavesWithNothing := gi_sub (fun w h => List.mem_cons_of_mem _ (List.mem_append_left _ (List.mem_append_left _ (List.mem_append_left _ (List.mem_append_left _ (List.mem_append_left _ (List.mem_append_left _ (List.mem_append_left _ (List.mem_append_left _ (List.mem_append_right _ (List.mem_append_right _ (List.mem_append_right _ (List.mem_append_right _ (List.mem_append_right _ (List.mem_append_right _ (List.mem_append_right _ (List.mem_append_left _ h))))))))))))))))) gd_wsX10_wavesWithNothing
set_option maxRecDepth 20000 in
theorem gX10_count_X10_wavesWithNothing : GoodIn wsX10_count (wsV RX10 308 RX10 yX10_wavesWithNothing wsX10_wavesWithNothing) := goodIn_app (goodIn_r _ [27, 28, 29, 10] (by decide +kernel) (by decide +kernel)) ggX10_count_X10_wavesWithNothing
theorem ggX10_count_X10_faresOfAllHere : GoodIn wsX10_count wsX10_faresOfAllHere := gi_sub (fun w h => List.mem_cons_of_mem _ (List.mem_append_left _ (List.mem_append_left _ (List.mem_append_left _ (List.mem_append_left _ (List.mem_append_left _ (List.mem_append_left _ (List.mem_append_left _ (List.mem_append_left _ (List.mem_append_right _ (List.mem_append_right _ (List.mem_append_right _ (List.mem_append_right _ (List.mem_append_right _ (List.mem_append_right _ (List.mem_append_right _ (List.mem_append_right _ h))))))))))))))))) gd_wsX10_faresOfAllHere
set_option maxRecDepth 20000 in
theorem gX10_count_X10_faresOfAllHere : GoodIn wsX10_count (wsV RX10 311 RX10 yX10_faresOfAllHere wsX10_faresOfAllHere) := goodIn_app (goodIn_r _ [30, 31, 32, 10] (by decide +kernel) (by decide +kernel)) ggX10_count_X10_faresOfAllHere
theorem dX10_count_0 : decode cX10_count 0 = .ok (.iload_n 1, 1) := dc1_27 (by decide +kernel)
theorem dX10_count_1 : decode cX10_count 1 = .ok (.tableswitch 254 0 18 #[91, 99, 107, 115, 123, 133, 143, 153, 164, 172, 180, 188, 196, 201, 206, 214, 233, 244, 249], 91) := by decide +kernel
theorem dX10_count_92 : decode cX10_count 92 = .ok (.aload_n 0, 1) := dc1_42 (by decide +kernel)
theorem dX10_count_93 : decode cX10_count 93 = .ok (.getfield 19, 3) := dcw_180 (by decide +kernel)
theorem dX10_count_96 : decode cX10_count 96 = .ok (.getfield 167, 3) := dcw_180 (by decide +kernel)
theorem dX10_count_99 : decode cX10_count 99 = .ok (.ireturn, 1) := dc1_172 (by decide +kernel)
theorem dX10_count_100 : decode cX10_count 100 = .ok (.aload_n 0, 1) := dc1_42 (by decide +kernel)
theorem dX10_count_101 : decode cX10_count 101 = .ok (.getfield 19, 3) := dcw_180 (by decide +kernel)
theorem dX10_count_104 : decode cX10_count 104 = .ok (.getfield 235, 3) := dcw_180 (by decide +kernel)
theorem dX10_count_107 : decode cX10_count 107 = .ok (.ireturn, 1) := dc1_172 (by decide +kernel)
theorem dX10_count_108 : decode cX10_count 108 = .ok (.aload_n 0, 1) := dc1_42 (by decide +kernel)
theorem dX10_count_109 : decode cX10_count 109 = .ok (.getfield 35, 3) := dcw_180 (by decide +kernel)
theorem dX10_count_112 : decode cX10_count 112 = .ok (.getfield 189, 3) := dcw_180 (by decide +kernel)
theorem dX10_count_115 : decode cX10_count 115 = .ok (.ireturn, 1) := dc1_172 (by decide +kernel)
theorem dX10_count_116 : decode cX10_count 116 = .ok (.aload_n 0, 1) := dc1_42 (by decide +kernel)
theorem dX10_count_117 : decode cX10_count 117 = .ok (.getfield 35, 3) := dcw_180 (by decide +kernel)
theorem dX10_count_120 : decode cX10_count 120 = .ok (.getfield 241, 3) := dcw_180 (by decide +kernel)
theorem dX10_count_123 : decode cX10_count 123 = .ok (.ireturn, 1) := dc1_172 (by decide +kernel)
theorem dX10_count_124 : decode cX10_count 124 = .ok (.aload_n 0, 1) := dc1_42 (by decide +kernel)
theorem dX10_count_125 : decode cX10_count 125 = .ok (.aload_n 0, 1) := dc1_42 (by decide +kernel)
theorem dX10_count_126 : decode cX10_count 126 = .ok (.getfield 35, 3) := dcw_180 (by decide +kernel)
theorem dX10_count_129 : decode cX10_count 129 = .ok (.iconst 0, 1) := dc1_3 (by decide +kernel)
theorem dX10_count_130 : decode cX10_count 130 = .ok (.invokevirtual 244, 3) := dcw_182 (by decide +kernel)
theorem dX10_count_133 : decode cX10_count 133 = .ok (.ireturn, 1) := dc1_172 (by decide +kernel)
theorem dX10_count_134 : decode cX10_count 134 = .ok (.aload_n 0, 1) := dc1_42 (by decide +kernel)
theorem dX10_count_135 : decode cX10_count 135 = .ok (.aload_n 0, 1) := dc1_42 (by decide +kernel)
theorem dX10_count_136 : decode cX10_count 136 = .ok (.getfield 35, 3) := dcw_180 (by decide +kernel)
theorem dX10_count_139 : decode cX10_count 139 = .ok (.iconst 1, 1) := dc1_4 (by decide +kernel)
theorem dX10_count_140 : decode cX10_count 140 = .ok (.invokevirtual 244, 3) := dcw_182 (by decide +kernel)
theorem dX10_count_143 : decode cX10_count 143 = .ok (.ireturn, 1) := dc1_172 (by decide +kernel)
theorem dX10_count_144 : decode cX10_count 144 = .ok (.aload_n 0, 1) := dc1_42 (by decide +kernel)
theorem dX10_count_145 : decode cX10_count 145 = .ok (.aload_n 0, 1) := dc1_42 (by decide +kernel)
theorem dX10_count_146 : decode cX10_count 146 = .ok (.getfield 35, 3) := dcw_180 (by decide +kernel)
theorem dX10_count_149 : decode cX10_count 149 = .ok (.iconst 2, 1) := dc1_5 (by decide +kernel)
theorem dX10_count_150 : decode cX10_count 150 = .ok (.invokevirtual 244, 3) := dcw_182 (by decide +kernel)
theorem dX10_count_153 : decode cX10_count 153 = .ok (.ireturn, 1) := dc1_172 (by decide +kernel)
theorem dX10_count_154 : decode cX10_count 154 = .ok (.aload_n 0, 1) := dc1_42 (by decide +kernel)
theorem dX10_count_155 : decode cX10_count 155 = .ok (.getfield 35, 3) := dcw_180 (by decide +kernel)
theorem dX10_count_158 : decode cX10_count 158 = .ok (.getfield 150, 3) := dcw_180 (by decide +kernel)
theorem dX10_count_161 : decode cX10_count 161 = .ok (.invokestatic 289, 3) := dcw_184 (by decide +kernel)
theorem dX10_count_164 : decode cX10_count 164 = .ok (.ireturn, 1) := dc1_172 (by decide +kernel)
theorem dX10_count_165 : decode cX10_count 165 = .ok (.aload_n 0, 1) := dc1_42 (by decide +kernel)
theorem dX10_count_166 : decode cX10_count 166 = .ok (.getfield 10, 3) := dcw_180 (by decide +kernel)
theorem dX10_count_169 : decode cX10_count 169 = .ok (.getfield 85, 3) := dcw_180 (by decide +kernel)
theorem dX10_count_172 : decode cX10_count 172 = .ok (.ireturn, 1) := dc1_172 (by decide +kernel)
theorem dX10_count_173 : decode cX10_count 173 = .ok (.aload_n 0, 1) := dc1_42 (by decide +kernel)
theorem dX10_count_174 : decode cX10_count 174 = .ok (.getfield 45, 3) := dcw_180 (by decide +kernel)
theorem dX10_count_177 : decode cX10_count 177 = .ok (.getfield 293, 3) := dcw_180 (by decide +kernel)
theorem dX10_count_180 : decode cX10_count 180 = .ok (.ireturn, 1) := dc1_172 (by decide +kernel)
theorem dX10_count_181 : decode cX10_count 181 = .ok (.aload_n 0, 1) := dc1_42 (by decide +kernel)
theorem dX10_count_182 : decode cX10_count 182 = .ok (.getfield 70, 3) := dcw_180 (by decide +kernel)
theorem dX10_count_185 : decode cX10_count 185 = .ok (.getfield 102, 3) := dcw_180 (by decide +kernel)
theorem dX10_count_188 : decode cX10_count 188 = .ok (.ireturn, 1) := dc1_172 (by decide +kernel)
theorem dX10_count_189 : decode cX10_count 189 = .ok (.aload_n 0, 1) := dc1_42 (by decide +kernel)
theorem dX10_count_190 : decode cX10_count 190 = .ok (.getfield 45, 3) := dcw_180 (by decide +kernel)
theorem dX10_count_193 : decode cX10_count 193 = .ok (.invokevirtual 296, 3) := dcw_182 (by decide +kernel)
theorem dX10_count_196 : decode cX10_count 196 = .ok (.ireturn, 1) := dc1_172 (by decide +kernel)
theorem dX10_count_197 : decode cX10_count 197 = .ok (.aload_n 0, 1) := dc1_42 (by decide +kernel)
theorem dX10_count_198 : decode cX10_count 198 = .ok (.invokevirtual 299, 3) := dcw_182 (by decide +kernel)
theorem dX10_count_201 : decode cX10_count 201 = .ok (.ireturn, 1) := dc1_172 (by decide +kernel)
theorem dX10_count_202 : decode cX10_count 202 = .ok (.aload_n 0, 1) := dc1_42 (by decide +kernel)
theorem dX10_count_203 : decode cX10_count 203 = .ok (.invokevirtual 302, 3) := dcw_182 (by decide +kernel)
theorem dX10_count_206 : decode cX10_count 206 = .ok (.ireturn, 1) := dc1_172 (by decide +kernel)
theorem dX10_count_207 : decode cX10_count 207 = .ok (.aload_n 0, 1) := dc1_42 (by decide +kernel)
theorem dX10_count_208 : decode cX10_count 208 = .ok (.getfield 19, 3) := dcw_180 (by decide +kernel)
theorem dX10_count_211 : decode cX10_count 211 = .ok (.getfield 305, 3) := dcw_180 (by decide +kernel)
theorem dX10_count_214 : decode cX10_count 214 = .ok (.ireturn, 1) := dc1_172 (by decide +kernel)
theorem dX10_count_215 : decode cX10_count 215 = .ok (.aload_n 0, 1) := dc1_42 (by decide +kernel)
theorem dX10_count_216 : decode cX10_count 216 = .ok (.getfield 54, 3) := dcw_180 (by decide +kernel)
theorem dX10_count_219 : decode cX10_count 219 = .ok (.aload_n 0, 1) := dc1_42 (by decide +kernel)
theorem dX10_count_220 : decode cX10_count 220 = .ok (.getfield 35, 3) := dcw_180 (by decide +kernel)
theorem dX10_count_223 : decode cX10_count 223 = .ok (.aload_n 0, 1) := dc1_42 (by decide +kernel)
theorem dX10_count_224 : decode cX10_count 224 = .ok (.getfield 19, 3) := dcw_180 (by decide +kernel)
theorem dX10_count_227 : decode cX10_count 227 = .ok (.getfield 253, 3) := dcw_180 (by decide +kernel)
theorem dX10_count_230 : decode cX10_count 230 = .ok (.invokevirtual 256, 3) := dcw_182 (by decide +kernel)
theorem dX10_count_233 : decode cX10_count 233 = .ok (.ireturn, 1) := dc1_172 (by decide +kernel)
theorem dX10_count_234 : decode cX10_count 234 = .ok (.aload_n 0, 1) := dc1_42 (by decide +kernel)
theorem dX10_count_235 : decode cX10_count 235 = .ok (.getfield 35, 3) := dcw_180 (by decide +kernel)
theorem dX10_count_238 : decode cX10_count 238 = .ok (.getfield 122, 3) := dcw_180 (by decide +kernel)
theorem dX10_count_241 : decode cX10_count 241 = .ok (.invokestatic 289, 3) := dcw_184 (by decide +kernel)
theorem dX10_count_244 : decode cX10_count 244 = .ok (.ireturn, 1) := dc1_172 (by decide +kernel)
theorem dX10_count_245 : decode cX10_count 245 = .ok (.aload_n 0, 1) := dc1_42 (by decide +kernel)
theorem dX10_count_246 : decode cX10_count 246 = .ok (.invokevirtual 308, 3) := dcw_182 (by decide +kernel)
theorem dX10_count_249 : decode cX10_count 249 = .ok (.ireturn, 1) := dc1_172 (by decide +kernel)
theorem dX10_count_250 : decode cX10_count 250 = .ok (.aload_n 0, 1) := dc1_42 (by decide +kernel)
theorem dX10_count_251 : decode cX10_count 251 = .ok (.invokevirtual 311, 3) := dcw_182 (by decide +kernel)
theorem dX10_count_254 : decode cX10_count 254 = .ok (.ireturn, 1) := dc1_172 (by decide +kernel)
theorem dX10_count_255 : decode cX10_count 255 = .ok (.iconst (-1), 1) := dc1_2 (by decide +kernel)
theorem dX10_count_256 : decode cX10_count 256 = .ok (.ireturn, 1) := dc1_172 (by decide +kernel)
theorem LX10_then_19 : Cond.fieldLink RX10 19 "GuessFerry" "sound" "LGuessFerry$Sound;" ∈ wsX10_then := by decide +kernel
theorem LX10_then_35 : Cond.fieldLink RX10 35 "GuessFerry" "now" "LGuessFerry$Standing;" ∈ wsX10_then := by decide +kernel
theorem LX10_then_39 : Cond.fieldLink RX10 39 "GuessFerry" "trial" "LGuessFerry$Standing;" ∈ wsX10_then := by decide +kernel
theorem LX10_then_54 : Cond.fieldLink RX10 54 "GuessFerry" "crossing" "LGuessFerry$Crossing;" ∈ wsX10_then := by decide +kernel
theorem LX10_then_E_X0_mayBe : Cond.selects RX0 yX0_mayBe yX0_mayBe ∈ wsX10_then := by decide +kernel
theorem LX10_then_E_X0_passYears : Cond.selects RX0 yX0_passYears yX0_passYears ∈ wsX10_then := by decide +kernel
theorem LX10_then_E_X0_thereNow : Cond.selects RX0 yX0_thereNow yX0_thereNow ∈ wsX10_then := by decide +kernel
theorem LX10_then_E_X5_hasWave : Cond.selects RX5 yX5_hasWave yX5_hasWave ∈ wsX10_then := by decide +kernel
theorem LX10_then_E_X6_copyFrom : Cond.selects RX6 yX6_copyFrom yX6_copyFrom ∈ wsX10_then := by decide +kernel
theorem LX10_then_I_X0 : Cond.initialized RX0 ∈ wsX10_then := by decide +kernel
theorem LX10_then_I_X5 : Cond.initialized RX5 ∈ wsX10_then := by decide +kernel
theorem LX10_then_I_X6 : Cond.initialized RX6 ∈ wsX10_then := by decide +kernel
theorem LX10_then_N_X0_mayBe : Cond.instanceMethod yX0_mayBe ∈ wsX10_then := by decide +kernel
theorem LX10_then_N_X0_passYears : Cond.instanceMethod yX0_passYears ∈ wsX10_then := by decide +kernel
theorem LX10_then_N_X0_thereNow : Cond.instanceMethod yX0_thereNow ∈ wsX10_then := by decide +kernel
theorem LX10_then_N_X5_hasWave : Cond.instanceMethod yX5_hasWave ∈ wsX10_then := by decide +kernel
theorem LX10_then_N_X6_copyFrom : Cond.instanceMethod yX6_copyFrom ∈ wsX10_then := by decide +kernel
theorem inX10_then_X10 : ∀ w ∈ u_ws RX10 TX10 9, w ∈ wsX10_then := by decide +kernel
theorem inX10_then_X6 : ∀ w ∈ u_ws RX6 TX6 7, w ∈ wsX10_then := by decide +kernel
set_option maxHeartbeats 4000000 in
set_option maxRecDepth 100000 in
theorem bkX10_then {l : Launch} {dC : Nat → ClassId} {dI : Nat → Nat → Nat} {cB cI cJ cZ cS : ClassId} {a b b2 c0 : Nat → Nat} {rg sl : Nat → Option Nat} {as : List Value} {r : Int32} {s' : XS} (s : XS) (x1 : Int32) (x2 : Int32) (x3 : Int32) (hB : kX10_then s x1 x2 x3 = some (r, s')) : BlkI l yX10_then wsX10_then ({ frames := 6, cells := 0, slots := 0, locals := 145 }) cX10_then 4 (some .int) (dC, dI) (tysA cB cI cJ cZ cS) as 0 (wX cB cI cJ cZ cS a b b2 c0 rg sl s) [(0, .ref (c0 0)), (1, .int x1), (2, .int x2), (3, .int x3)] [] (fun x u => x = r ∧ u = (wX cB cI cJ cZ cS a b b2 c0 rg sl s')) := by
  intro p e s0 m below meth c A E H locs ls hP hD hS hl
  obtain ⟨C, hr, hlocks, hA, hK, hN⟩ := id E
  obtain ⟨hx, hb, hml, hown, hts⟩ := id C
  unfold kX10_then at hB
  refine lv_aload_n hx hb dX10_then_0 rfl (lv_at hl 0 rfl) ?_
  refine q_get (v := .ref (a 2)) C inX10_then_X10 hK hP 0 rfl rfl 1 (by decide) rfl LX10_then_19 rfl dX10_then_1 ?_
  refine lv_iload_n hx hb dX10_then_4 rfl (lv_at hl 1 rfl) ?_
  obtain ⟨q_, s1, hc, hB⟩ := bindI_inv hB
  refine q_goi (wr := ((wG cZ cS a b b2 c0 rg sl s.g) ++ (wD cI b2 s.t) ++ (wD cI b s.n))) (va_runVN (As := [.int x1]) (rest := []) C (ckX5_hasWave hc _) ⟨va_cnB 1 hts gX10_then_X5_hasWave_n108 rfl rfl rfl (hN _ nwM_X10_108 rfl) (hts _ LX10_then_I_X5) (by decide +kernel) ⟨Nat.le_of_ble_eq_true rfl, Nat.le_of_ble_eq_true rfl⟩, hts _ LX10_then_N_X5_hasWave, hts _ LX10_then_E_X5_hasWave⟩ (q_preV hK hP (ci := 5) (q0 := 19) rfl rfl rfl (q_pre hN hK hP hD [17, 18, 19, 20, 21, 22, 23, 24, 25, 26, 27, 28, 29, 30, 31, 32, 33, 34, 35, 36, 37, 38, 39, 40, 41, 42, 43, 44, 45, 46, 47, 48, 49, 50, 51, 52, 53, 54, 55, 56, 57, 58, 59, 60, 61, 62, 63] rfl (by decide))) rfl rfl hl.1 rfl (lv_room (Nat.le_of_ble_eq_true rfl)) dX10_then_5 ⟨Nat.le_of_ble_eq_true rfl, Nat.le_of_ble_eq_true rfl⟩) hP hD hS hA [17, 18, 19, 20, 21, 22, 23, 24, 25, 26, 27, 28, 29, 30, 31, 32, 33, 34, 35, 36, 37, 38, 39, 40, 41, 42, 43, 44, 45, 46, 47, 48, 49, 50, 51, 52, 53, 54, 55, 56, 57, 58, 59, 60, 61, 62, 63] [0, 1, 2, 3, 4, 5, 6, 7, 8, 9, 10, 11, 12, 13, 14, 15, 16] rfl rfl (by decide) (by decide) (fun r2 w1 H locs hw hP hD hS => ?_)
  obtain ⟨hq_, hw⟩ := hw; subst hw; subst hq_
  obtain ⟨s3, hs4, hB⟩ := letS_inv hB
  have hP : va_P (dC, dI) vwCl (wX cB cI cJ cZ cS a b b2 c0 rg sl s3) H := by subst hs4; exact hP
  have hD : va_D A (wX cB cI cJ cZ cS a b b2 c0 rg sl s3) := by subst hs4; exact hD
  refine lv_if_eq (tgt := 21) hx hb dX10_then_8 (by decide) (fun c5 => ?_) (fun c5 => ?_)
  · have hB := if_p hB c5
    refine lv_iconst (v := (-1)) hx hb dX10_then_21 (by decide) ?_
    exact q_iret C hr hlocks hK hP hD hS (Nat.le_of_ble_eq_true rfl) (Nat.le_of_ble_eq_true rfl) dX10_then_22 (by cases hB; exact ⟨rfl, rfl⟩)
  · have hB := if_n hB c5
    refine lv_iload_n hx hb dX10_then_11 rfl (lv_at hl 2 rfl) ?_
    refine lv_if_lt (tgt := 21) hx hb dX10_then_12 (by decide) (fun c6 => ?_) (fun c6 => ?_)
    · have hB := if_p hB c6
      refine lv_iconst (v := (-1)) hx hb dX10_then_21 (by decide) ?_
      exact q_iret C hr hlocks hK hP hD hS (Nat.le_of_ble_eq_true rfl) (Nat.le_of_ble_eq_true rfl) dX10_then_22 (by cases hB; exact ⟨rfl, rfl⟩)
    · have hB := if_n hB c6
      refine lv_iload_n hx hb dX10_then_15 rfl (lv_at hl 2 rfl) ?_
      refine lv_bipush (v := 40) hx hb dX10_then_16 (by decide) ?_
      refine lv_icmp_le (tgt := 23) hx hb dX10_then_18 (by decide) (fun c7 => ?_) (fun c7 => ?_)
      · have hB := if_p hB c7
        refine lv_aload_n hx hb dX10_then_23 rfl (lv_at hl 0 rfl) ?_
        refine q_get (v := .ref (b2 0)) C inX10_then_X10 hK hP 0 rfl rfl 4 (by decide) rfl LX10_then_39 rfl dX10_then_24 ?_
        refine lv_aload_n hx hb dX10_then_27 rfl (lv_at hl 0 rfl) ?_
        refine q_get (v := .ref (b 0)) C inX10_then_X10 hK hP 0 rfl rfl 3 (by decide) rfl LX10_then_35 rfl dX10_then_28 ?_
        obtain ⟨s8, hc, hB⟩ := bindP_inv hB
        refine q_gov (wr := ((wG cZ cS a b b2 c0 rg sl s3.g) ++ (wK cB cI cJ cZ cS a s3.k))) (va_runVN (As := [.ref (b 0)]) (rest := []) C (ckX6_copyFrom hc _) ⟨va_cnB 1 hts gX10_then_X6_copyFrom_n227 rfl rfl rfl (hN _ nwM_X10_227 rfl) (hts _ LX10_then_I_X6) (by decide +kernel) ⟨Nat.le_of_ble_eq_true rfl, Nat.le_of_ble_eq_true rfl⟩, hts _ LX10_then_N_X6_copyFrom, hts _ LX10_then_E_X6_copyFrom⟩ (q_preV hK hP (ci := 6) (q0 := 5) rfl rfl rfl (q_pre hN hK hP hD [11, 12, 13, 14, 15, 16, 5, 6, 7, 8, 9, 10] rfl (by decide))) rfl rfl hl.1 rfl (lv_room (Nat.le_of_ble_eq_true rfl)) dX10_then_31 ⟨Nat.le_of_ble_eq_true rfl, Nat.le_of_ble_eq_true rfl⟩) hP hD hS hA [11, 12, 13, 14, 15, 16, 5, 6, 7, 8, 9, 10] [0, 1, 2, 3, 4, 17, 18, 19, 20, 21, 22, 23, 24, 25, 26, 27, 28, 29, 30, 31, 32, 33, 34, 35, 36, 37, 38, 39, 40, 41, 42, 43, 44, 45, 46, 47, 48, 49, 50, 51, 52, 53, 54, 55, 56, 57, 58, 59, 60, 61, 62, 63] rfl rfl (by decide) (by decide) (fun w1 H locs hw hP hD hS => ?_)
        subst hw
        obtain ⟨s9, hs10, hB⟩ := letS_inv hB
        have hP : va_P (dC, dI) vwCl (wX cB cI cJ cZ cS a b b2 c0 rg sl s9) H := by subst hs10; exact hP.sub [0, 1, 2, 3, 4, 58, 59, 60, 61, 62, 63, 52, 53, 54, 55, 56, 57, 5, 6, 7, 8, 9, 10, 11, 12, 13, 14, 15, 16, 17, 18, 19, 20, 21, 22, 23, 24, 25, 26, 27, 28, 29, 30, 31, 32, 33, 34, 35, 36, 37, 38, 39, 40, 41, 42, 43, 44, 45, 46, 47, 48, 49, 50, 51] rfl
        have hD : va_D A (wX cB cI cJ cZ cS a b b2 c0 rg sl s9) := by subst hs10; exact hD.sub [0, 1, 2, 3, 4, 58, 59, 60, 61, 62, 63, 52, 53, 54, 55, 56, 57, 5, 6, 7, 8, 9, 10, 11, 12, 13, 14, 15, 16, 17, 18, 19, 20, 21, 22, 23, 24, 25, 26, 27, 28, 29, 30, 31, 32, 33, 34, 35, 36, 37, 38, 39, 40, 41, 42, 43, 44, 45, 46, 47, 48, 49, 50, 51] (by decide) rfl
        refine lv_aload_n hx hb dX10_then_34 rfl (lv_at hl 0 rfl) ?_
        refine q_get (v := .ref (a 35)) C inX10_then_X10 hK hP 0 rfl rfl 6 (by decide) rfl LX10_then_54 rfl dX10_then_35 ?_
        refine lv_aload_n hx hb dX10_then_38 rfl (lv_at hl 0 rfl) ?_
        refine q_get (v := .ref (b2 0)) C inX10_then_X10 hK hP 0 rfl rfl 4 (by decide) rfl LX10_then_39 rfl dX10_then_39 ?_
        refine lv_iload_n hx hb dX10_then_42 rfl (lv_at hl 2 rfl) ?_
        obtain ⟨s11, hc, hB⟩ := bindP_inv hB
        refine q_gov (wr := ((wG cZ cS a b b2 c0 rg sl s9.g) ++ (wD cI b s9.n))) (va_runVN (As := [.ref (b2 0), .int x2]) (rest := []) C (ckX0_passYears hc _) ⟨va_cnB 2 hts gX10_then_X0_passYears_n185 rfl rfl rfl (hN _ nwM_X10_185 rfl) (hts _ LX10_then_I_X0) (by decide +kernel) ⟨Nat.le_of_ble_eq_true rfl, Nat.le_of_ble_eq_true rfl⟩, hts _ LX10_then_N_X0_passYears, hts _ LX10_then_E_X0_passYears⟩ (q_preV hK hP (ci := 0) (q0 := 52) rfl rfl rfl (q_pre hN hK hP hD [5, 6, 7, 8, 9, 10, 17, 18, 19, 20, 21, 22, 23, 24, 25, 26, 27, 28, 29, 30, 31, 32, 33, 34, 35, 36, 37, 38, 39, 40, 41, 42, 43, 44, 45, 46, 47, 48, 49, 50, 51, 52, 53, 54, 55, 56, 57, 58, 59, 60, 61, 62, 63] rfl (by decide))) rfl rfl hl.1 rfl (lv_room (Nat.le_of_ble_eq_true rfl)) dX10_then_43 ⟨Nat.le_of_ble_eq_true rfl, Nat.le_of_ble_eq_true rfl⟩) hP hD hS hA [5, 6, 7, 8, 9, 10, 17, 18, 19, 20, 21, 22, 23, 24, 25, 26, 27, 28, 29, 30, 31, 32, 33, 34, 35, 36, 37, 38, 39, 40, 41, 42, 43, 44, 45, 46, 47, 48, 49, 50, 51, 52, 53, 54, 55, 56, 57, 58, 59, 60, 61, 62, 63] [0, 1, 2, 3, 4, 11, 12, 13, 14, 15, 16] rfl rfl (by decide) (by decide) (fun w1 H locs hw hP hD hS => ?_)
        subst hw
        obtain ⟨s12, hs13, hB⟩ := letS_inv hB
        have hP : va_P (dC, dI) vwCl (wX cB cI cJ cZ cS a b b2 c0 rg sl s12) H := by subst hs13; exact hP.sub [0, 1, 2, 3, 4, 11, 12, 13, 14, 15, 16, 5, 6, 7, 8, 9, 10, 17, 18, 19, 20, 21, 22, 23, 24, 25, 26, 27, 28, 29, 30, 31, 32, 33, 34, 35, 36, 37, 38, 39, 40, 41, 42, 43, 44, 45, 46, 47, 48, 49, 50, 51, 52, 53, 54, 55, 56, 57, 58, 59, 60, 61, 62, 63] rfl
        have hD : va_D A (wX cB cI cJ cZ cS a b b2 c0 rg sl s12) := by subst hs13; exact hD.sub [0, 1, 2, 3, 4, 11, 12, 13, 14, 15, 16, 5, 6, 7, 8, 9, 10, 17, 18, 19, 20, 21, 22, 23, 24, 25, 26, 27, 28, 29, 30, 31, 32, 33, 34, 35, 36, 37, 38, 39, 40, 41, 42, 43, 44, 45, 46, 47, 48, 49, 50, 51, 52, 53, 54, 55, 56, 57, 58, 59, 60, 61, 62, 63] (by decide) rfl
        refine lv_iload_n hx hb dX10_then_46 rfl (lv_at hl 3 rfl) ?_
        by_cases e14 : x3 = 0
        · have hB := if_p hB e14
          refine q_top (y := 0) e14 ?_
          refine lv_tableIn (off := 25) (tgt := 72) hx hb dX10_then_47 (by decide +kernel) (by decide +kernel) (by decide +kernel) (by decide) ?_
          refine lv_aload_n hx hb dX10_then_72 rfl (lv_at hl 0 rfl) ?_
          refine q_get (v := .ref (a 35)) C inX10_then_X10 hK hP 0 rfl rfl 6 (by decide) rfl LX10_then_54 rfl dX10_then_73 ?_
          refine lv_aload_n hx hb dX10_then_76 rfl (lv_at hl 0 rfl) ?_
          refine q_get (v := .ref (b2 0)) C inX10_then_X10 hK hP 0 rfl rfl 4 (by decide) rfl LX10_then_39 rfl dX10_then_77 ?_
          refine lv_iload_n hx hb dX10_then_80 rfl (lv_at hl 1 rfl) ?_
          obtain ⟨q_, s15, hc, hB⟩ := bindI_inv hB
          refine q_goi (wr := ((wG cZ cS a b b2 c0 rg sl s12.g) ++ (wD cI b s12.n))) (va_runVN (As := [.ref (b2 0), .int x1]) (rest := []) C (ckX0_mayBe hc _) ⟨va_cnB 2 hts gX10_then_X0_mayBe_n111 rfl rfl rfl (hN _ nwM_X10_111 rfl) (hts _ LX10_then_I_X0) (by decide +kernel) ⟨Nat.le_of_ble_eq_true rfl, Nat.le_of_ble_eq_true rfl⟩, hts _ LX10_then_N_X0_mayBe, hts _ LX10_then_E_X0_mayBe⟩ (q_preV hK hP (ci := 0) (q0 := 52) rfl rfl rfl (q_pre hN hK hP hD [5, 6, 7, 8, 9, 10, 17, 18, 19, 20, 21, 22, 23, 24, 25, 26, 27, 28, 29, 30, 31, 32, 33, 34, 35, 36, 37, 38, 39, 40, 41, 42, 43, 44, 45, 46, 47, 48, 49, 50, 51, 52, 53, 54, 55, 56, 57, 58, 59, 60, 61, 62, 63] rfl (by decide))) rfl rfl hl.1 rfl (lv_room (Nat.le_of_ble_eq_true rfl)) dX10_then_81 ⟨Nat.le_of_ble_eq_true rfl, Nat.le_of_ble_eq_true rfl⟩) hP hD hS hA [5, 6, 7, 8, 9, 10, 17, 18, 19, 20, 21, 22, 23, 24, 25, 26, 27, 28, 29, 30, 31, 32, 33, 34, 35, 36, 37, 38, 39, 40, 41, 42, 43, 44, 45, 46, 47, 48, 49, 50, 51, 52, 53, 54, 55, 56, 57, 58, 59, 60, 61, 62, 63] [0, 1, 2, 3, 4, 11, 12, 13, 14, 15, 16] rfl rfl (by decide) (by decide) (fun r16 w1 H locs hw hP hD hS => ?_)
          obtain ⟨hq_, hw⟩ := hw; subst hw; subst hq_
          obtain ⟨s17, hs18, hB⟩ := letS_inv hB
          have hP : va_P (dC, dI) vwCl (wX cB cI cJ cZ cS a b b2 c0 rg sl s17) H := by subst hs18; exact hP.sub [0, 1, 2, 3, 4, 11, 12, 13, 14, 15, 16, 5, 6, 7, 8, 9, 10, 17, 18, 19, 20, 21, 22, 23, 24, 25, 26, 27, 28, 29, 30, 31, 32, 33, 34, 35, 36, 37, 38, 39, 40, 41, 42, 43, 44, 45, 46, 47, 48, 49, 50, 51, 52, 53, 54, 55, 56, 57, 58, 59, 60, 61, 62, 63] rfl
          have hD : va_D A (wX cB cI cJ cZ cS a b b2 c0 rg sl s17) := by subst hs18; exact hD.sub [0, 1, 2, 3, 4, 11, 12, 13, 14, 15, 16, 5, 6, 7, 8, 9, 10, 17, 18, 19, 20, 21, 22, 23, 24, 25, 26, 27, 28, 29, 30, 31, 32, 33, 34, 35, 36, 37, 38, 39, 40, 41, 42, 43, 44, 45, 46, 47, 48, 49, 50, 51, 52, 53, 54, 55, 56, 57, 58, 59, 60, 61, 62, 63] (by decide) rfl
          exact q_iret C hr hlocks hK hP hD hS (Nat.le_of_ble_eq_true rfl) (Nat.le_of_ble_eq_true rfl) dX10_then_84 (by cases hB; exact ⟨rfl, rfl⟩)
        · have hB := if_n hB e14
          by_cases e19 : x3 = 1
          · have hB := if_p hB e19
            refine q_top (y := 1) e19 ?_
            refine lv_tableIn (off := 38) (tgt := 85) hx hb dX10_then_47 (by decide +kernel) (by decide +kernel) (by decide +kernel) (by decide) ?_
            refine lv_aload_n hx hb dX10_then_85 rfl (lv_at hl 0 rfl) ?_
            refine q_get (v := .ref (b2 0)) C inX10_then_X10 hK hP 0 rfl rfl 4 (by decide) rfl LX10_then_39 rfl dX10_then_86 ?_
            refine q_getN (v := .ref (b2 3)) C hN inX10_then_X6 hK hP 5 rfl rfl 2 (by decide) rfl nwF_X10_122 rfl dX10_then_89 ?_
            refine lv_iload_n hx hb dX10_then_92 rfl (lv_at hl 1 rfl) ?_
            obtain ⟨g20, hB⟩ := guard_inv hB
            refine q_iald (x := ((s12.t.f 2) (Int32.toNatClampNeg x1))) C hK hP 8 1 rfl rfl (vpb_in g20) dX10_then_93 rfl ?_
            exact q_iret C hr hlocks hK hP hD hS (Nat.le_of_ble_eq_true rfl) (Nat.le_of_ble_eq_true rfl) dX10_then_94 (by cases hB; exact ⟨rfl, rfl⟩)
          · have hB := if_n hB e19
            by_cases e21 : x3 = 2
            · have hB := if_p hB e21
              refine q_top (y := 2) e21 ?_
              refine lv_tableIn (off := 48) (tgt := 95) hx hb dX10_then_47 (by decide +kernel) (by decide +kernel) (by decide +kernel) (by decide) ?_
              refine lv_aload_n hx hb dX10_then_95 rfl (lv_at hl 0 rfl) ?_
              refine q_get (v := .ref (a 35)) C inX10_then_X10 hK hP 0 rfl rfl 6 (by decide) rfl LX10_then_54 rfl dX10_then_96 ?_
              refine lv_aload_n hx hb dX10_then_99 rfl (lv_at hl 0 rfl) ?_
              refine q_get (v := .ref (b2 0)) C inX10_then_X10 hK hP 0 rfl rfl 4 (by decide) rfl LX10_then_39 rfl dX10_then_100 ?_
              refine lv_iload_n hx hb dX10_then_103 rfl (lv_at hl 1 rfl) ?_
              obtain ⟨q_, s22, hc, hB⟩ := bindI_inv hB
              refine q_goi (wr := ((wG cZ cS a b b2 c0 rg sl s12.g) ++ (wD cI b s12.n))) (va_runVN (As := [.ref (b2 0), .int x1]) (rest := []) C (ckX0_thereNow hc _) ⟨va_cnB 2 hts gX10_then_X0_thereNow_n125 rfl rfl rfl (hN _ nwM_X10_125 rfl) (hts _ LX10_then_I_X0) (by decide +kernel) ⟨Nat.le_of_ble_eq_true rfl, Nat.le_of_ble_eq_true rfl⟩, hts _ LX10_then_N_X0_thereNow, hts _ LX10_then_E_X0_thereNow⟩ (q_preV hK hP (ci := 0) (q0 := 52) rfl rfl rfl (q_pre hN hK hP hD [5, 6, 7, 8, 9, 10, 17, 18, 19, 20, 21, 22, 23, 24, 25, 26, 27, 28, 29, 30, 31, 32, 33, 34, 35, 36, 37, 38, 39, 40, 41, 42, 43, 44, 45, 46, 47, 48, 49, 50, 51, 52, 53, 54, 55, 56, 57, 58, 59, 60, 61, 62, 63] rfl (by decide))) rfl rfl hl.1 rfl (lv_room (Nat.le_of_ble_eq_true rfl)) dX10_then_104 ⟨Nat.le_of_ble_eq_true rfl, Nat.le_of_ble_eq_true rfl⟩) hP hD hS hA [5, 6, 7, 8, 9, 10, 17, 18, 19, 20, 21, 22, 23, 24, 25, 26, 27, 28, 29, 30, 31, 32, 33, 34, 35, 36, 37, 38, 39, 40, 41, 42, 43, 44, 45, 46, 47, 48, 49, 50, 51, 52, 53, 54, 55, 56, 57, 58, 59, 60, 61, 62, 63] [0, 1, 2, 3, 4, 11, 12, 13, 14, 15, 16] rfl rfl (by decide) (by decide) (fun r23 w1 H locs hw hP hD hS => ?_)
              obtain ⟨hq_, hw⟩ := hw; subst hw; subst hq_
              obtain ⟨s24, hs25, hB⟩ := letS_inv hB
              have hP : va_P (dC, dI) vwCl (wX cB cI cJ cZ cS a b b2 c0 rg sl s24) H := by subst hs25; exact hP.sub [0, 1, 2, 3, 4, 11, 12, 13, 14, 15, 16, 5, 6, 7, 8, 9, 10, 17, 18, 19, 20, 21, 22, 23, 24, 25, 26, 27, 28, 29, 30, 31, 32, 33, 34, 35, 36, 37, 38, 39, 40, 41, 42, 43, 44, 45, 46, 47, 48, 49, 50, 51, 52, 53, 54, 55, 56, 57, 58, 59, 60, 61, 62, 63] rfl
              have hD : va_D A (wX cB cI cJ cZ cS a b b2 c0 rg sl s24) := by subst hs25; exact hD.sub [0, 1, 2, 3, 4, 11, 12, 13, 14, 15, 16, 5, 6, 7, 8, 9, 10, 17, 18, 19, 20, 21, 22, 23, 24, 25, 26, 27, 28, 29, 30, 31, 32, 33, 34, 35, 36, 37, 38, 39, 40, 41, 42, 43, 44, 45, 46, 47, 48, 49, 50, 51, 52, 53, 54, 55, 56, 57, 58, 59, 60, 61, 62, 63] (by decide) rfl
              exact q_iret C hr hlocks hK hP hD hS (Nat.le_of_ble_eq_true rfl) (Nat.le_of_ble_eq_true rfl) dX10_then_107 (by cases hB; exact ⟨rfl, rfl⟩)
            · have hB := if_n hB e21
              refine lv_tableOut (tgt := 108) hx hb dX10_then_47 (by have := ne_toInt (k := 0) rfl e14; have := ne_toInt (k := 1) rfl e19; have := ne_toInt (k := 2) rfl e21; omega) (by decide) ?_
              refine lv_iconst (v := (-1)) hx hb dX10_then_108 (by decide) ?_
              exact q_iret C hr hlocks hK hP hD hS (Nat.le_of_ble_eq_true rfl) (Nat.le_of_ble_eq_true rfl) dX10_then_109 (by cases hB; exact ⟨rfl, rfl⟩)
      · have hB := if_n hB c7
        refine lv_iconst (v := (-1)) hx hb dX10_then_21 (by decide) ?_
        exact q_iret C hr hlocks hK hP hD hS (Nat.le_of_ble_eq_true rfl) (Nat.le_of_ble_eq_true rfl) dX10_then_22 (by cases hB; exact ⟨rfl, rfl⟩)
theorem ckX10_then {l : Launch} {dC : Nat → ClassId} {dI : Nat → Nat → Nat} {cB cI cJ cZ cS : ClassId} {a b b2 c0 : Nat → Nat} {rg sl : Nat → Option Nat} {r : Int32} {s' : XS} {s : XS} {x1 : Int32} {x2 : Int32} {x3 : Int32} (hB : kX10_then s x1 x2 x3 = some (r, s')) : CI l yX10_then wsX10_then ({ frames := 6, cells := 0, slots := 0, locals := 145 }) (dC, dI) (tysA cB cI cJ cZ cS) (wX cB cI cJ cZ cS a b b2 c0 rg sl s) [.ref (c0 0), .int x1, .int x2, .int x3] (fun x u => x = r ∧ u = (wX cB cI cJ cZ cS a b b2 c0 rg sl s')) :=
  CI_of (cc := cX10_then) (maxL := 4) (ret := (some .int)) (by decide) rfl (Nat.le_of_ble_eq_true rfl) (bkX10_then _ _ _ _ hB)
theorem LX10_next_19 : Cond.fieldLink RX10 19 "GuessFerry" "sound" "LGuessFerry$Sound;" ∈ wsX10_next := by decide +kernel
theorem LX10_next_35 : Cond.fieldLink RX10 35 "GuessFerry" "now" "LGuessFerry$Standing;" ∈ wsX10_next := by decide +kernel
theorem LX10_next_39 : Cond.fieldLink RX10 39 "GuessFerry" "trial" "LGuessFerry$Standing;" ∈ wsX10_next := by decide +kernel
theorem LX10_next_54 : Cond.fieldLink RX10 54 "GuessFerry" "crossing" "LGuessFerry$Crossing;" ∈ wsX10_next := by decide +kernel
theorem LX10_next_E_X0_passYears : Cond.selects RX0 yX0_passYears yX0_passYears ∈ wsX10_next := by decide +kernel
theorem LX10_next_E_X5_hasWave : Cond.selects RX5 yX5_hasWave yX5_hasWave ∈ wsX10_next := by decide +kernel
theorem LX10_next_E_X6_copyFrom : Cond.selects RX6 yX6_copyFrom yX6_copyFrom ∈ wsX10_next := by decide +kernel
theorem LX10_next_I_X0 : Cond.initialized RX0 ∈ wsX10_next := by decide +kernel
theorem LX10_next_I_X5 : Cond.initialized RX5 ∈ wsX10_next := by decide +kernel
theorem LX10_next_I_X6 : Cond.initialized RX6 ∈ wsX10_next := by decide +kernel
theorem LX10_next_N_X0_passYears : Cond.instanceMethod yX0_passYears ∈ wsX10_next := by decide +kernel
theorem LX10_next_N_X5_hasWave : Cond.instanceMethod yX5_hasWave ∈ wsX10_next := by decide +kernel
theorem LX10_next_N_X6_copyFrom : Cond.instanceMethod yX6_copyFrom ∈ wsX10_next := by decide +kernel
theorem inX10_next_X10 : ∀ w ∈ u_ws RX10 TX10 9, w ∈ wsX10_next := by decide +kernel
theorem inX10_next_X6 : ∀ w ∈ u_ws RX6 TX6 7, w ∈ wsX10_next := by decide +kernel
set_option maxHeartbeats 4000000 in
set_option maxRecDepth 100000 in
theorem bkX10_next_26 {l : Launch} {dC : Nat → ClassId} {dI : Nat → Nat → Nat} {cB cI cJ cZ cS : ClassId} {a b b2 c0 : Nat → Nat} {rg sl : Nat → Option Nat} {as : List Value} {r : Int32} {s' : XS} {k26 : XS → Int32 → Int32 → Option (Int32 × XS)} (hk26 : ∀ (s : XS) (x1 : Int32) (x2 : Int32), k26 s x1 x2 = some (r, s') → BlkI l yX10_next wsX10_next ({ frames := 6, cells := 0, slots := 0, locals := 145 }) cX10_next 3 (some .int) (dC, dI) (tysA cB cI cJ cZ cS) as 26 (wX cB cI cJ cZ cS a b b2 c0 rg sl s) [(0, .ref (c0 0)), (1, .int x1), (2, .int x2)] [] (fun x u => x = r ∧ u = (wX cB cI cJ cZ cS a b b2 c0 rg sl s'))) (s : XS) (x1 : Int32) (x2 : Int32) (hB : kX10_next_26 k26 s x1 x2 = some (r, s')) : BlkI l yX10_next wsX10_next ({ frames := 6, cells := 0, slots := 0, locals := 145 }) cX10_next 3 (some .int) (dC, dI) (tysA cB cI cJ cZ cS) as 26 (wX cB cI cJ cZ cS a b b2 c0 rg sl s) [(0, .ref (c0 0)), (1, .int x1), (2, .int x2)] [] (fun x u => x = r ∧ u = (wX cB cI cJ cZ cS a b b2 c0 rg sl s')) := by
  intro p e s0 m below meth c A E H locs ls hP hD hS hl
  obtain ⟨C, hr, hlocks, hA, hK, hN⟩ := id E
  obtain ⟨hx, hb, hml, hown, hts⟩ := id C
  unfold kX10_next_26 at hB
  refine lv_iload_n hx hb dX10_next_26 rfl (lv_at hl 2 rfl) ?_
  refine lv_bipush (v := 40) hx hb dX10_next_27 (by decide) ?_
  refine lv_icmp_gt (tgt := 73) hx hb dX10_next_29 (by decide) (fun c1 => ?_) (fun c1 => ?_)
  · have hB := if_p hB c1
    refine lv_bipush (v := (-2)) hx hb dX10_next_73 (by decide) ?_
    exact q_iret C hr hlocks hK hP hD hS (Nat.le_of_ble_eq_true rfl) (Nat.le_of_ble_eq_true rfl) dX10_next_75 (by cases hB; exact ⟨rfl, rfl⟩)
  · have hB := if_n hB c1
    refine lv_aload_n hx hb dX10_next_32 rfl (lv_at hl 0 rfl) ?_
    refine q_get (v := .ref (a 35)) C inX10_next_X10 hK hP 0 rfl rfl 6 (by decide) rfl LX10_next_54 rfl dX10_next_33 ?_
    refine lv_aload_n hx hb dX10_next_36 rfl (lv_at hl 0 rfl) ?_
    refine q_get (v := .ref (b2 0)) C inX10_next_X10 hK hP 0 rfl rfl 4 (by decide) rfl LX10_next_39 rfl dX10_next_37 ?_
    refine lv_iconst (v := 1) hx hb dX10_next_40 (by decide) ?_
    obtain ⟨s2, hc, hB⟩ := bindP_inv hB
    refine q_gov (wr := ((wG cZ cS a b b2 c0 rg sl s.g) ++ (wD cI b s.n))) (va_runVN (As := [.ref (b2 0), .int 1]) (rest := []) C (ckX0_passYears hc _) ⟨va_cnB 2 hts gX10_next_X0_passYears_n185 rfl rfl rfl (hN _ nwM_X10_185 rfl) (hts _ LX10_next_I_X0) (by decide +kernel) ⟨Nat.le_of_ble_eq_true rfl, Nat.le_of_ble_eq_true rfl⟩, hts _ LX10_next_N_X0_passYears, hts _ LX10_next_E_X0_passYears⟩ (q_preV hK hP (ci := 0) (q0 := 52) rfl rfl rfl (q_pre hN hK hP hD [5, 6, 7, 8, 9, 10, 17, 18, 19, 20, 21, 22, 23, 24, 25, 26, 27, 28, 29, 30, 31, 32, 33, 34, 35, 36, 37, 38, 39, 40, 41, 42, 43, 44, 45, 46, 47, 48, 49, 50, 51, 52, 53, 54, 55, 56, 57, 58, 59, 60, 61, 62, 63] rfl (by decide))) rfl rfl hl.1 rfl (lv_room (Nat.le_of_ble_eq_true rfl)) dX10_next_41 ⟨Nat.le_of_ble_eq_true rfl, Nat.le_of_ble_eq_true rfl⟩) hP hD hS hA [5, 6, 7, 8, 9, 10, 17, 18, 19, 20, 21, 22, 23, 24, 25, 26, 27, 28, 29, 30, 31, 32, 33, 34, 35, 36, 37, 38, 39, 40, 41, 42, 43, 44, 45, 46, 47, 48, 49, 50, 51, 52, 53, 54, 55, 56, 57, 58, 59, 60, 61, 62, 63] [0, 1, 2, 3, 4, 11, 12, 13, 14, 15, 16] rfl rfl (by decide) (by decide) (fun w1 H locs hw hP hD hS => ?_)
    subst hw
    obtain ⟨s3, hs4, hB⟩ := letS_inv hB
    have hP : va_P (dC, dI) vwCl (wX cB cI cJ cZ cS a b b2 c0 rg sl s3) H := by subst hs4; exact hP.sub [0, 1, 2, 3, 4, 11, 12, 13, 14, 15, 16, 5, 6, 7, 8, 9, 10, 17, 18, 19, 20, 21, 22, 23, 24, 25, 26, 27, 28, 29, 30, 31, 32, 33, 34, 35, 36, 37, 38, 39, 40, 41, 42, 43, 44, 45, 46, 47, 48, 49, 50, 51, 52, 53, 54, 55, 56, 57, 58, 59, 60, 61, 62, 63] rfl
    have hD : va_D A (wX cB cI cJ cZ cS a b b2 c0 rg sl s3) := by subst hs4; exact hD.sub [0, 1, 2, 3, 4, 11, 12, 13, 14, 15, 16, 5, 6, 7, 8, 9, 10, 17, 18, 19, 20, 21, 22, 23, 24, 25, 26, 27, 28, 29, 30, 31, 32, 33, 34, 35, 36, 37, 38, 39, 40, 41, 42, 43, 44, 45, 46, 47, 48, 49, 50, 51, 52, 53, 54, 55, 56, 57, 58, 59, 60, 61, 62, 63] (by decide) rfl
    refine lv_aload_n hx hb dX10_next_44 rfl (lv_at hl 0 rfl) ?_
    refine q_get (v := .ref (b2 0)) C inX10_next_X10 hK hP 0 rfl rfl 4 (by decide) rfl LX10_next_39 rfl dX10_next_45 ?_
    refine q_getN (v := .ref (b2 3)) C hN inX10_next_X6 hK hP 5 rfl rfl 2 (by decide) rfl nwF_X10_122 rfl dX10_next_48 ?_
    refine lv_iload_n hx hb dX10_next_51 rfl (lv_at hl 1 rfl) ?_
    obtain ⟨g5, hB⟩ := guard_inv hB
    refine q_iald (x := ((s3.t.f 2) (Int32.toNatClampNeg x1))) C hK hP 8 1 rfl rfl (vpb_in g5) dX10_next_52 rfl ?_
    refine lv_aload_n hx hb dX10_next_53 rfl (lv_at hl 0 rfl) ?_
    refine q_get (v := .ref (b 0)) C inX10_next_X10 hK hP 0 rfl rfl 3 (by decide) rfl LX10_next_35 rfl dX10_next_54 ?_
    refine q_getN (v := .ref (b 3)) C hN inX10_next_X6 hK hP 11 rfl rfl 2 (by decide) rfl nwF_X10_122 rfl dX10_next_57 ?_
    refine lv_iload_n hx hb dX10_next_60 rfl (lv_at hl 1 rfl) ?_
    obtain ⟨g6, hB⟩ := guard_inv hB
    refine q_iald (x := ((s3.n.f 2) (Int32.toNatClampNeg x1))) C hK hP 14 1 rfl rfl (vpb_in g6) dX10_next_61 rfl ?_
    refine lv_icmp_eq (tgt := 67) hx hb dX10_next_62 (by decide) (fun c7 => ?_) (fun c7 => ?_)
    · have hB := if_p hB c7
      refine lv_iinc (v := (x2 + 1)) (lv' := [(2, .int (x2 + 1)), (0, .ref (c0 0)), (1, .int x1)]) hx hb dX10_next_67 hl (k := 2) rfl (rfl) (by decide) rfl (fun ls hl => ?_)
      refine lv_goto (tgt := 26) hx hb dX10_next_70 (by decide) ?_
      exact hk26 _ _ _ hB p e s0 m below meth c A E H locs ls hP hD hS (lv_sub hl [1, 2, 0] rfl)
    · have hB := if_n hB c7
      refine lv_iload_n hx hb dX10_next_65 rfl (lv_at hl 2 rfl) ?_
      exact q_iret C hr hlocks hK hP hD hS (Nat.le_of_ble_eq_true rfl) (Nat.le_of_ble_eq_true rfl) dX10_next_66 (by cases hB; exact ⟨rfl, rfl⟩)
theorem bkX10_next_26L {l : Launch} {dC : Nat → ClassId} {dI : Nat → Nat → Nat} {cB cI cJ cZ cS : ClassId} {a b b2 c0 : Nat → Nat} {rg sl : Nat → Option Nat} {as : List Value} {r : Int32} {s' : XS} : ∀ (n : Nat) (s : XS) (x1 : Int32) (x2 : Int32), kX10_next_26L n s x1 x2 = some (r, s') → BlkI l yX10_next wsX10_next ({ frames := 6, cells := 0, slots := 0, locals := 145 }) cX10_next 3 (some .int) (dC, dI) (tysA cB cI cJ cZ cS) as 26 (wX cB cI cJ cZ cS a b b2 c0 rg sl s) [(0, .ref (c0 0)), (1, .int x1), (2, .int x2)] [] (fun x u => x = r ∧ u = (wX cB cI cJ cZ cS a b b2 c0 rg sl s')) := by
  intro n
  induction n with
  | zero => intro s x1 x2 hB; exact none_ne hB
  | succ n ih => intro s x1 x2 hB; exact bkX10_next_26 ih _ _ _ hB
set_option maxHeartbeats 4000000 in
set_option maxRecDepth 100000 in
theorem bkX10_next {l : Launch} {dC : Nat → ClassId} {dI : Nat → Nat → Nat} {cB cI cJ cZ cS : ClassId} {a b b2 c0 : Nat → Nat} {rg sl : Nat → Option Nat} {as : List Value} {r : Int32} {s' : XS} (s : XS) (x1 : Int32) (hB : kX10_next s x1 = some (r, s')) : BlkI l yX10_next wsX10_next ({ frames := 6, cells := 0, slots := 0, locals := 145 }) cX10_next 3 (some .int) (dC, dI) (tysA cB cI cJ cZ cS) as 0 (wX cB cI cJ cZ cS a b b2 c0 rg sl s) [(0, .ref (c0 0)), (1, .int x1)] [] (fun x u => x = r ∧ u = (wX cB cI cJ cZ cS a b b2 c0 rg sl s')) := by
  intro p e s0 m below meth c A E H locs ls hP hD hS hl
  obtain ⟨C, hr, hlocks, hA, hK, hN⟩ := id E
  obtain ⟨hx, hb, hml, hown, hts⟩ := id C
  unfold kX10_next at hB
  refine lv_aload_n hx hb dX10_next_0 rfl (lv_at hl 0 rfl) ?_
  refine q_get (v := .ref (a 2)) C inX10_next_X10 hK hP 0 rfl rfl 1 (by decide) rfl LX10_next_19 rfl dX10_next_1 ?_
  refine lv_iload_n hx hb dX10_next_4 rfl (lv_at hl 1 rfl) ?_
  obtain ⟨q_, s1, hc, hB⟩ := bindI_inv hB
  refine q_goi (wr := ((wG cZ cS a b b2 c0 rg sl s.g) ++ (wD cI b2 s.t) ++ (wD cI b s.n))) (va_runVN (As := [.int x1]) (rest := []) C (ckX5_hasWave hc _) ⟨va_cnB 1 hts gX10_next_X5_hasWave_n108 rfl rfl rfl (hN _ nwM_X10_108 rfl) (hts _ LX10_next_I_X5) (by decide +kernel) ⟨Nat.le_of_ble_eq_true rfl, Nat.le_of_ble_eq_true rfl⟩, hts _ LX10_next_N_X5_hasWave, hts _ LX10_next_E_X5_hasWave⟩ (q_preV hK hP (ci := 5) (q0 := 19) rfl rfl rfl (q_pre hN hK hP hD [17, 18, 19, 20, 21, 22, 23, 24, 25, 26, 27, 28, 29, 30, 31, 32, 33, 34, 35, 36, 37, 38, 39, 40, 41, 42, 43, 44, 45, 46, 47, 48, 49, 50, 51, 52, 53, 54, 55, 56, 57, 58, 59, 60, 61, 62, 63] rfl (by decide))) rfl rfl hl.1 rfl (lv_room (Nat.le_of_ble_eq_true rfl)) dX10_next_5 ⟨Nat.le_of_ble_eq_true rfl, Nat.le_of_ble_eq_true rfl⟩) hP hD hS hA [17, 18, 19, 20, 21, 22, 23, 24, 25, 26, 27, 28, 29, 30, 31, 32, 33, 34, 35, 36, 37, 38, 39, 40, 41, 42, 43, 44, 45, 46, 47, 48, 49, 50, 51, 52, 53, 54, 55, 56, 57, 58, 59, 60, 61, 62, 63] [0, 1, 2, 3, 4, 5, 6, 7, 8, 9, 10, 11, 12, 13, 14, 15, 16] rfl rfl (by decide) (by decide) (fun r2 w1 H locs hw hP hD hS => ?_)
  obtain ⟨hq_, hw⟩ := hw; subst hw; subst hq_
  obtain ⟨s3, hs4, hB⟩ := letS_inv hB
  have hP : va_P (dC, dI) vwCl (wX cB cI cJ cZ cS a b b2 c0 rg sl s3) H := by subst hs4; exact hP
  have hD : va_D A (wX cB cI cJ cZ cS a b b2 c0 rg sl s3) := by subst hs4; exact hD
  refine lv_if_ne (tgt := 13) hx hb dX10_next_8 (by decide) (fun c5 => ?_) (fun c5 => ?_)
  · have hB := if_n hB c5
    refine lv_aload_n hx hb dX10_next_13 rfl (lv_at hl 0 rfl) ?_
    refine q_get (v := .ref (b2 0)) C inX10_next_X10 hK hP 0 rfl rfl 4 (by decide) rfl LX10_next_39 rfl dX10_next_14 ?_
    refine lv_aload_n hx hb dX10_next_17 rfl (lv_at hl 0 rfl) ?_
    refine q_get (v := .ref (b 0)) C inX10_next_X10 hK hP 0 rfl rfl 3 (by decide) rfl LX10_next_35 rfl dX10_next_18 ?_
    obtain ⟨s6, hc, hB⟩ := bindP_inv hB
    refine q_gov (wr := ((wG cZ cS a b b2 c0 rg sl s3.g) ++ (wK cB cI cJ cZ cS a s3.k))) (va_runVN (As := [.ref (b 0)]) (rest := []) C (ckX6_copyFrom hc _) ⟨va_cnB 1 hts gX10_next_X6_copyFrom_n227 rfl rfl rfl (hN _ nwM_X10_227 rfl) (hts _ LX10_next_I_X6) (by decide +kernel) ⟨Nat.le_of_ble_eq_true rfl, Nat.le_of_ble_eq_true rfl⟩, hts _ LX10_next_N_X6_copyFrom, hts _ LX10_next_E_X6_copyFrom⟩ (q_preV hK hP (ci := 6) (q0 := 5) rfl rfl rfl (q_pre hN hK hP hD [11, 12, 13, 14, 15, 16, 5, 6, 7, 8, 9, 10] rfl (by decide))) rfl rfl hl.1 rfl (lv_room (Nat.le_of_ble_eq_true rfl)) dX10_next_21 ⟨Nat.le_of_ble_eq_true rfl, Nat.le_of_ble_eq_true rfl⟩) hP hD hS hA [11, 12, 13, 14, 15, 16, 5, 6, 7, 8, 9, 10] [0, 1, 2, 3, 4, 17, 18, 19, 20, 21, 22, 23, 24, 25, 26, 27, 28, 29, 30, 31, 32, 33, 34, 35, 36, 37, 38, 39, 40, 41, 42, 43, 44, 45, 46, 47, 48, 49, 50, 51, 52, 53, 54, 55, 56, 57, 58, 59, 60, 61, 62, 63] rfl rfl (by decide) (by decide) (fun w1 H locs hw hP hD hS => ?_)
    subst hw
    obtain ⟨s7, hs8, hB⟩ := letS_inv hB
    have hP : va_P (dC, dI) vwCl (wX cB cI cJ cZ cS a b b2 c0 rg sl s7) H := by subst hs8; exact hP.sub [0, 1, 2, 3, 4, 58, 59, 60, 61, 62, 63, 52, 53, 54, 55, 56, 57, 5, 6, 7, 8, 9, 10, 11, 12, 13, 14, 15, 16, 17, 18, 19, 20, 21, 22, 23, 24, 25, 26, 27, 28, 29, 30, 31, 32, 33, 34, 35, 36, 37, 38, 39, 40, 41, 42, 43, 44, 45, 46, 47, 48, 49, 50, 51] rfl
    have hD : va_D A (wX cB cI cJ cZ cS a b b2 c0 rg sl s7) := by subst hs8; exact hD.sub [0, 1, 2, 3, 4, 58, 59, 60, 61, 62, 63, 52, 53, 54, 55, 56, 57, 5, 6, 7, 8, 9, 10, 11, 12, 13, 14, 15, 16, 17, 18, 19, 20, 21, 22, 23, 24, 25, 26, 27, 28, 29, 30, 31, 32, 33, 34, 35, 36, 37, 38, 39, 40, 41, 42, 43, 44, 45, 46, 47, 48, 49, 50, 51] (by decide) rfl
    refine lv_iconst (v := 1) hx hb dX10_next_24 (by decide) ?_
    refine lv_istore_n (lv' := [(2, .int 1), (0, .ref (c0 0)), (1, .int x1)]) hx hb dX10_next_25 rfl hl (by decide) rfl (fun ls hl => ?_)
    exact bkX10_next_26L fu _ _ _ hB p e s0 m below meth c A E H locs ls hP hD hS (lv_sub hl [1, 2, 0] rfl)
  · have hB := if_p hB c5
    refine lv_iconst (v := (-1)) hx hb dX10_next_11 (by decide) ?_
    exact q_iret C hr hlocks hK hP hD hS (Nat.le_of_ble_eq_true rfl) (Nat.le_of_ble_eq_true rfl) dX10_next_12 (by cases hB; exact ⟨rfl, rfl⟩)
theorem ckX10_next {l : Launch} {dC : Nat → ClassId} {dI : Nat → Nat → Nat} {cB cI cJ cZ cS : ClassId} {a b b2 c0 : Nat → Nat} {rg sl : Nat → Option Nat} {r : Int32} {s' : XS} {s : XS} {x1 : Int32} (hB : kX10_next s x1 = some (r, s')) : CI l yX10_next wsX10_next ({ frames := 6, cells := 0, slots := 0, locals := 145 }) (dC, dI) (tysA cB cI cJ cZ cS) (wX cB cI cJ cZ cS a b b2 c0 rg sl s) [.ref (c0 0), .int x1] (fun x u => x = r ∧ u = (wX cB cI cJ cZ cS a b b2 c0 rg sl s')) :=
  CI_of (cc := cX10_next) (maxL := 3) (ret := (some .int)) (by decide) rfl (Nat.le_of_ble_eq_true rfl) (bkX10_next _ _ hB)
theorem LX10_count_10 : Cond.fieldLink RX10 10 "GuessFerry" "tape" "LGuessFerry$Tape;" ∈ wsX10_count := by decide +kernel
theorem LX10_count_19 : Cond.fieldLink RX10 19 "GuessFerry" "sound" "LGuessFerry$Sound;" ∈ wsX10_count := by decide +kernel
theorem LX10_count_35 : Cond.fieldLink RX10 35 "GuessFerry" "now" "LGuessFerry$Standing;" ∈ wsX10_count := by decide +kernel
theorem LX10_count_45 : Cond.fieldLink RX10 45 "GuessFerry" "past" "LGuessFerry$Past;" ∈ wsX10_count := by decide +kernel
theorem LX10_count_54 : Cond.fieldLink RX10 54 "GuessFerry" "crossing" "LGuessFerry$Crossing;" ∈ wsX10_count := by decide +kernel
theorem LX10_count_70 : Cond.fieldLink RX10 70 "GuessFerry" "tellers" "LGuessFerry$Tellers;" ∈ wsX10_count := by decide +kernel
theorem LX10_count_E_X0_guessThere : Cond.selects RX0 yX0_guessThere yX0_guessThere ∈ wsX10_count := by decide +kernel
theorem LX10_count_E_X3_slotsHeld : Cond.selects RX3 yX3_slotsHeld yX3_slotsHeld ∈ wsX10_count := by decide +kernel
theorem LX10_count_I_X0 : Cond.initialized RX0 ∈ wsX10_count := by decide +kernel
theorem LX10_count_I_X3 : Cond.initialized RX3 ∈ wsX10_count := by decide +kernel
theorem LX10_count_N_X0_guessThere : Cond.instanceMethod yX0_guessThere ∈ wsX10_count := by decide +kernel
theorem LX10_count_N_X3_slotsHeld : Cond.instanceMethod yX3_slotsHeld ∈ wsX10_count := by decide +kernel
theorem inX10_count_X10 : ∀ w ∈ u_ws RX10 TX10 9, w ∈ wsX10_count := by decide +kernel
theorem inX10_count_X3 : ∀ w ∈ u_ws RX3 TX3 5, w ∈ wsX10_count := by decide +kernel
theorem inX10_count_X5 : ∀ w ∈ u_ws RX5 TX5 10, w ∈ wsX10_count := by decide +kernel
theorem inX10_count_X6 : ∀ w ∈ u_ws RX6 TX6 7, w ∈ wsX10_count := by decide +kernel
theorem inX10_count_X7 : ∀ w ∈ u_ws RX7 TX7 2, w ∈ wsX10_count := by decide +kernel
theorem inX10_count_X8 : ∀ w ∈ u_ws RX8 TX8 8, w ∈ wsX10_count := by decide +kernel
set_option maxHeartbeats 4000000 in
set_option maxRecDepth 100000 in
theorem bkX10_count {l : Launch} {dC : Nat → ClassId} {dI : Nat → Nat → Nat} {cB cI cJ cZ cS : ClassId} {a b b2 c0 : Nat → Nat} {rg sl : Nat → Option Nat} {as : List Value} {r : Int32} {s' : XS} (s : XS) (x1 : Int32) (hB : kX10_count s x1 = some (r, s')) : BlkI l yX10_count wsX10_count ({ frames := 5, cells := 0, slots := 0, locals := 120 }) cX10_count 2 (some .int) (dC, dI) (tysA cB cI cJ cZ cS) as 0 (wX cB cI cJ cZ cS a b b2 c0 rg sl s) [(0, .ref (c0 0)), (1, .int x1)] [] (fun x u => x = r ∧ u = (wX cB cI cJ cZ cS a b b2 c0 rg sl s')) := by
  intro p e s0 m below meth c A E H locs ls hP hD hS hl
  obtain ⟨C, hr, hlocks, hA, hK, hN⟩ := id E
  obtain ⟨hx, hb, hml, hown, hts⟩ := id C
  unfold kX10_count at hB
  refine lv_iload_n hx hb dX10_count_0 rfl (lv_at hl 1 rfl) ?_
  by_cases e1 : x1 = 0
  · have hB := if_p hB e1
    refine q_top (y := 0) e1 ?_
    refine lv_tableIn (off := 91) (tgt := 92) hx hb dX10_count_1 (by decide +kernel) (by decide +kernel) (by decide +kernel) (by decide) ?_
    refine lv_aload_n hx hb dX10_count_92 rfl (lv_at hl 0 rfl) ?_
    refine q_get (v := .ref (a 2)) C inX10_count_X10 hK hP 0 rfl rfl 1 (by decide) rfl LX10_count_19 rfl dX10_count_93 ?_
    refine q_getN (v := .int (s.k.v 1)) C hN inX10_count_X5 hK hP 19 rfl rfl 6 (by decide) rfl nwF_X10_167 rfl dX10_count_96 ?_
    exact q_iret C hr hlocks hK hP hD hS (Nat.le_of_ble_eq_true rfl) (Nat.le_of_ble_eq_true rfl) dX10_count_99 (by cases hB; exact ⟨rfl, rfl⟩)
  · have hB := if_n hB e1
    by_cases e2 : x1 = 1
    · have hB := if_p hB e2
      refine q_top (y := 1) e2 ?_
      refine lv_tableIn (off := 99) (tgt := 100) hx hb dX10_count_1 (by decide +kernel) (by decide +kernel) (by decide +kernel) (by decide) ?_
      refine lv_aload_n hx hb dX10_count_100 rfl (lv_at hl 0 rfl) ?_
      refine q_get (v := .ref (a 2)) C inX10_count_X10 hK hP 0 rfl rfl 1 (by decide) rfl LX10_count_19 rfl dX10_count_101 ?_
      refine q_getN (v := .int (s.k.v 2)) C hN inX10_count_X5 hK hP 19 rfl rfl 7 (by decide) rfl nwF_X10_235 rfl dX10_count_104 ?_
      exact q_iret C hr hlocks hK hP hD hS (Nat.le_of_ble_eq_true rfl) (Nat.le_of_ble_eq_true rfl) dX10_count_107 (by cases hB; exact ⟨rfl, rfl⟩)
    · have hB := if_n hB e2
      by_cases e3 : x1 = 2
      · have hB := if_p hB e3
        refine q_top (y := 2) e3 ?_
        refine lv_tableIn (off := 107) (tgt := 108) hx hb dX10_count_1 (by decide +kernel) (by decide +kernel) (by decide +kernel) (by decide) ?_
        refine lv_aload_n hx hb dX10_count_108 rfl (lv_at hl 0 rfl) ?_
        refine q_get (v := .ref (b 0)) C inX10_count_X10 hK hP 0 rfl rfl 3 (by decide) rfl LX10_count_35 rfl dX10_count_109 ?_
        refine q_getN (v := .int (s.n.v 5)) C hN inX10_count_X6 hK hP 11 rfl rfl 5 (by decide) rfl nwF_X10_189 rfl dX10_count_112 ?_
        exact q_iret C hr hlocks hK hP hD hS (Nat.le_of_ble_eq_true rfl) (Nat.le_of_ble_eq_true rfl) dX10_count_115 (by cases hB; exact ⟨rfl, rfl⟩)
      · have hB := if_n hB e3
        by_cases e4 : x1 = 3
        · have hB := if_p hB e4
          refine q_top (y := 3) e4 ?_
          refine lv_tableIn (off := 115) (tgt := 116) hx hb dX10_count_1 (by decide +kernel) (by decide +kernel) (by decide +kernel) (by decide) ?_
          refine lv_aload_n hx hb dX10_count_116 rfl (lv_at hl 0 rfl) ?_
          refine q_get (v := .ref (b 0)) C inX10_count_X10 hK hP 0 rfl rfl 3 (by decide) rfl LX10_count_35 rfl dX10_count_117 ?_
          refine q_getN (v := .int (s.n.v 6)) C hN inX10_count_X6 hK hP 11 rfl rfl 6 (by decide) rfl nwF_X10_241 rfl dX10_count_120 ?_
          exact q_iret C hr hlocks hK hP hD hS (Nat.le_of_ble_eq_true rfl) (Nat.le_of_ble_eq_true rfl) dX10_count_123 (by cases hB; exact ⟨rfl, rfl⟩)
        · have hB := if_n hB e4
          by_cases e5 : x1 = 4
          · have hB := if_p hB e5
            refine q_top (y := 4) e5 ?_
            refine lv_tableIn (off := 123) (tgt := 124) hx hb dX10_count_1 (by decide +kernel) (by decide +kernel) (by decide +kernel) (by decide) ?_
            refine lv_aload_n hx hb dX10_count_124 rfl (lv_at hl 0 rfl) ?_
            refine lv_aload_n hx hb dX10_count_125 rfl (lv_at hl 0 rfl) ?_
            refine q_get (v := .ref (b 0)) C inX10_count_X10 hK hP 0 rfl rfl 3 (by decide) rfl LX10_count_35 rfl dX10_count_126 ?_
            refine lv_iconst (v := 0) hx hb dX10_count_129 (by decide) ?_
            obtain ⟨q_, s6, hc, hB⟩ := bindI_inv hB
            refine q_goiF (va_runV (As := [.ref (b 0), .int 0]) (rest := []) C (ckX10_partiesThatAre hc _) (cwV 2 hts gX10_count_X10_partiesThatAre rfl rfl rfl (by decide +kernel) ⟨Nat.le_of_ble_eq_true rfl, Nat.le_of_ble_eq_true rfl⟩) (q_preV hK hP (ci := 10) (q0 := 0) rfl rfl rfl (q_preF hN hK hP hD)) rfl rfl hl.1 rfl (lv_room (Nat.le_of_ble_eq_true rfl)) dX10_count_130 ⟨Nat.le_of_ble_eq_true rfl, Nat.le_of_ble_eq_true rfl⟩) hD hS hA (fun r7 w1 H locs hw hP hD hS => ?_)
            obtain ⟨hq_, hw⟩ := hw; subst hw; subst hq_
            exact q_iret C hr hlocks hK hP hD hS (Nat.le_of_ble_eq_true rfl) (Nat.le_of_ble_eq_true rfl) dX10_count_133 (by cases hB; exact ⟨rfl, rfl⟩)
          · have hB := if_n hB e5
            by_cases e8 : x1 = 5
            · have hB := if_p hB e8
              refine q_top (y := 5) e8 ?_
              refine lv_tableIn (off := 133) (tgt := 134) hx hb dX10_count_1 (by decide +kernel) (by decide +kernel) (by decide +kernel) (by decide) ?_
              refine lv_aload_n hx hb dX10_count_134 rfl (lv_at hl 0 rfl) ?_
              refine lv_aload_n hx hb dX10_count_135 rfl (lv_at hl 0 rfl) ?_
              refine q_get (v := .ref (b 0)) C inX10_count_X10 hK hP 0 rfl rfl 3 (by decide) rfl LX10_count_35 rfl dX10_count_136 ?_
              refine lv_iconst (v := 1) hx hb dX10_count_139 (by decide) ?_
              obtain ⟨q_, s9, hc, hB⟩ := bindI_inv hB
              refine q_goiF (va_runV (As := [.ref (b 0), .int 1]) (rest := []) C (ckX10_partiesThatAre hc _) (cwV 2 hts gX10_count_X10_partiesThatAre rfl rfl rfl (by decide +kernel) ⟨Nat.le_of_ble_eq_true rfl, Nat.le_of_ble_eq_true rfl⟩) (q_preV hK hP (ci := 10) (q0 := 0) rfl rfl rfl (q_preF hN hK hP hD)) rfl rfl hl.1 rfl (lv_room (Nat.le_of_ble_eq_true rfl)) dX10_count_140 ⟨Nat.le_of_ble_eq_true rfl, Nat.le_of_ble_eq_true rfl⟩) hD hS hA (fun r10 w1 H locs hw hP hD hS => ?_)
              obtain ⟨hq_, hw⟩ := hw; subst hw; subst hq_
              exact q_iret C hr hlocks hK hP hD hS (Nat.le_of_ble_eq_true rfl) (Nat.le_of_ble_eq_true rfl) dX10_count_143 (by cases hB; exact ⟨rfl, rfl⟩)
            · have hB := if_n hB e8
              by_cases e11 : x1 = 6
              · have hB := if_p hB e11
                refine q_top (y := 6) e11 ?_
                refine lv_tableIn (off := 143) (tgt := 144) hx hb dX10_count_1 (by decide +kernel) (by decide +kernel) (by decide +kernel) (by decide) ?_
                refine lv_aload_n hx hb dX10_count_144 rfl (lv_at hl 0 rfl) ?_
                refine lv_aload_n hx hb dX10_count_145 rfl (lv_at hl 0 rfl) ?_
                refine q_get (v := .ref (b 0)) C inX10_count_X10 hK hP 0 rfl rfl 3 (by decide) rfl LX10_count_35 rfl dX10_count_146 ?_
                refine lv_iconst (v := 2) hx hb dX10_count_149 (by decide) ?_
                obtain ⟨q_, s12, hc, hB⟩ := bindI_inv hB
                refine q_goiF (va_runV (As := [.ref (b 0), .int 2]) (rest := []) C (ckX10_partiesThatAre hc _) (cwV 2 hts gX10_count_X10_partiesThatAre rfl rfl rfl (by decide +kernel) ⟨Nat.le_of_ble_eq_true rfl, Nat.le_of_ble_eq_true rfl⟩) (q_preV hK hP (ci := 10) (q0 := 0) rfl rfl rfl (q_preF hN hK hP hD)) rfl rfl hl.1 rfl (lv_room (Nat.le_of_ble_eq_true rfl)) dX10_count_150 ⟨Nat.le_of_ble_eq_true rfl, Nat.le_of_ble_eq_true rfl⟩) hD hS hA (fun r13 w1 H locs hw hP hD hS => ?_)
                obtain ⟨hq_, hw⟩ := hw; subst hw; subst hq_
                exact q_iret C hr hlocks hK hP hD hS (Nat.le_of_ble_eq_true rfl) (Nat.le_of_ble_eq_true rfl) dX10_count_153 (by cases hB; exact ⟨rfl, rfl⟩)
              · have hB := if_n hB e11
                by_cases e14 : x1 = 7
                · have hB := if_p hB e14
                  refine q_top (y := 7) e14 ?_
                  refine lv_tableIn (off := 153) (tgt := 154) hx hb dX10_count_1 (by decide +kernel) (by decide +kernel) (by decide +kernel) (by decide) ?_
                  refine lv_aload_n hx hb dX10_count_154 rfl (lv_at hl 0 rfl) ?_
                  refine q_get (v := .ref (b 0)) C inX10_count_X10 hK hP 0 rfl rfl 3 (by decide) rfl LX10_count_35 rfl dX10_count_155 ?_
                  refine q_getN (v := .ref (b 5)) C hN inX10_count_X6 hK hP 11 rfl rfl 4 (by decide) rfl nwF_X10_150 rfl dX10_count_158 ?_
                  obtain ⟨q_, s15, hc, hB⟩ := bindI_inv hB
                  refine q_goi (wr := (((wX cB cI cJ cZ cS a b b2 c0 rg sl s)).eraseIdx 16)) (va_runS (As := [.ref (b 5)]) (rest := []) C (ckX10_sumOf_6 hc _) (va_cwS 1 hts gX10_count_X10_sumOf rfl rfl rfl (by decide +kernel) ⟨Nat.le_of_ble_eq_true rfl, Nat.le_of_ble_eq_true rfl⟩) (q_pre hN hK hP hD [16] rfl (by decide)) rfl rfl hl.1 rfl (lv_room (Nat.le_of_ble_eq_true rfl)) dX10_count_161 ⟨Nat.le_of_ble_eq_true rfl, Nat.le_of_ble_eq_true rfl⟩) hP hD hS hA [16] [0, 1, 2, 3, 4, 5, 6, 7, 8, 9, 10, 11, 12, 13, 14, 15, 17, 18, 19, 20, 21, 22, 23, 24, 25, 26, 27, 28, 29, 30, 31, 32, 33, 34, 35, 36, 37, 38, 39, 40, 41, 42, 43, 44, 45, 46, 47, 48, 49, 50, 51, 52, 53, 54, 55, 56, 57, 58, 59, 60, 61, 62, 63] rfl rfl (by decide) (by decide) (fun r16 w1 H locs hw hP hD hS => ?_)
                  obtain ⟨hq_, hw⟩ := hw; subst hw; subst hq_
                  obtain ⟨s17, hs18, hB⟩ := letS_inv hB
                  have hP : va_P (dC, dI) vwCl (wX cB cI cJ cZ cS a b b2 c0 rg sl s17) H := by subst hs18; exact hP.sub [0, 1, 2, 3, 4, 5, 6, 7, 8, 9, 10, 11, 12, 13, 14, 15, 63, 16, 17, 18, 19, 20, 21, 22, 23, 24, 25, 26, 27, 28, 29, 30, 31, 32, 33, 34, 35, 36, 37, 38, 39, 40, 41, 42, 43, 44, 45, 46, 47, 48, 49, 50, 51, 52, 53, 54, 55, 56, 57, 58, 59, 60, 61, 62] rfl
                  have hD : va_D A (wX cB cI cJ cZ cS a b b2 c0 rg sl s17) := by subst hs18; exact hD.sub [0, 1, 2, 3, 4, 5, 6, 7, 8, 9, 10, 11, 12, 13, 14, 15, 63, 16, 17, 18, 19, 20, 21, 22, 23, 24, 25, 26, 27, 28, 29, 30, 31, 32, 33, 34, 35, 36, 37, 38, 39, 40, 41, 42, 43, 44, 45, 46, 47, 48, 49, 50, 51, 52, 53, 54, 55, 56, 57, 58, 59, 60, 61, 62] (by decide) rfl
                  exact q_iret C hr hlocks hK hP hD hS (Nat.le_of_ble_eq_true rfl) (Nat.le_of_ble_eq_true rfl) dX10_count_164 (by cases hB; exact ⟨rfl, rfl⟩)
                · have hB := if_n hB e14
                  by_cases e19 : x1 = 8
                  · have hB := if_p hB e19
                    refine q_top (y := 8) e19 ?_
                    refine lv_tableIn (off := 164) (tgt := 165) hx hb dX10_count_1 (by decide +kernel) (by decide +kernel) (by decide +kernel) (by decide) ?_
                    refine lv_aload_n hx hb dX10_count_165 rfl (lv_at hl 0 rfl) ?_
                    refine q_get (v := .ref (a 0)) C inX10_count_X10 hK hP 0 rfl rfl 0 (by decide) rfl LX10_count_10 rfl dX10_count_166 ?_
                    refine q_getN (v := .int (s.k.v 0)) C hN inX10_count_X7 hK hP 17 rfl rfl 1 (by decide) rfl nwF_X10_85 rfl dX10_count_169 ?_
                    exact q_iret C hr hlocks hK hP hD hS (Nat.le_of_ble_eq_true rfl) (Nat.le_of_ble_eq_true rfl) dX10_count_172 (by cases hB; exact ⟨rfl, rfl⟩)
                  · have hB := if_n hB e19
                    by_cases e20 : x1 = 9
                    · have hB := if_p hB e20
                      refine q_top (y := 9) e20 ?_
                      refine lv_tableIn (off := 172) (tgt := 173) hx hb dX10_count_1 (by decide +kernel) (by decide +kernel) (by decide +kernel) (by decide) ?_
                      refine lv_aload_n hx hb dX10_count_173 rfl (lv_at hl 0 rfl) ?_
                      refine q_get (v := .ref (c0 1)) C inX10_count_X10 hK hP 0 rfl rfl 5 (by decide) rfl LX10_count_45 rfl dX10_count_174 ?_
                      refine q_getN (v := .int (s.g.v 4)) C hN inX10_count_X3 hK hP 1 rfl rfl 4 (by decide) rfl nwF_X10_293 rfl dX10_count_177 ?_
                      exact q_iret C hr hlocks hK hP hD hS (Nat.le_of_ble_eq_true rfl) (Nat.le_of_ble_eq_true rfl) dX10_count_180 (by cases hB; exact ⟨rfl, rfl⟩)
                    · have hB := if_n hB e20
                      by_cases e21 : x1 = 10
                      · have hB := if_p hB e21
                        refine q_top (y := 10) e21 ?_
                        refine lv_tableIn (off := 180) (tgt := 181) hx hb dX10_count_1 (by decide +kernel) (by decide +kernel) (by decide +kernel) (by decide) ?_
                        refine lv_aload_n hx hb dX10_count_181 rfl (lv_at hl 0 rfl) ?_
                        refine q_get (v := .ref (a 41)) C inX10_count_X10 hK hP 0 rfl rfl 8 (by decide) rfl LX10_count_70 rfl dX10_count_182 ?_
                        refine q_getN (v := .int (s.k.v 21)) C hN inX10_count_X8 hK hP 58 rfl rfl 7 (by decide) rfl nwF_X10_102 rfl dX10_count_185 ?_
                        exact q_iret C hr hlocks hK hP hD hS (Nat.le_of_ble_eq_true rfl) (Nat.le_of_ble_eq_true rfl) dX10_count_188 (by cases hB; exact ⟨rfl, rfl⟩)
                      · have hB := if_n hB e21
                        by_cases e22 : x1 = 11
                        · have hB := if_p hB e22
                          refine q_top (y := 11) e22 ?_
                          refine lv_tableIn (off := 188) (tgt := 189) hx hb dX10_count_1 (by decide +kernel) (by decide +kernel) (by decide +kernel) (by decide) ?_
                          refine lv_aload_n hx hb dX10_count_189 rfl (lv_at hl 0 rfl) ?_
                          refine q_get (v := .ref (c0 1)) C inX10_count_X10 hK hP 0 rfl rfl 5 (by decide) rfl LX10_count_45 rfl dX10_count_190 ?_
                          obtain ⟨q_, s23, hc, hB⟩ := bindI_inv hB
                          refine q_goi (wr := ((wD cI b2 s.t) ++ (wD cI b s.n) ++ (wK cB cI cJ cZ cS a s.k))) (va_runVN (As := []) (rest := []) C (ckX3_slotsHeld hc _) ⟨va_cnB 0 hts gX10_count_X3_slotsHeld_n296 rfl rfl rfl (hN _ nwM_X10_296 rfl) (hts _ LX10_count_I_X3) (by decide +kernel) ⟨Nat.le_of_ble_eq_true rfl, Nat.le_of_ble_eq_true rfl⟩, hts _ LX10_count_N_X3_slotsHeld, hts _ LX10_count_E_X3_slotsHeld⟩ (q_preV hK hP (ci := 3) (q0 := 1) rfl rfl rfl (q_pre hN hK hP hD [0, 1, 2, 3, 4] rfl (by decide))) rfl rfl hl.1 rfl (lv_room (Nat.le_of_ble_eq_true rfl)) dX10_count_193 ⟨Nat.le_of_ble_eq_true rfl, Nat.le_of_ble_eq_true rfl⟩) hP hD hS hA [0, 1, 2, 3, 4] [5, 6, 7, 8, 9, 10, 11, 12, 13, 14, 15, 16, 17, 18, 19, 20, 21, 22, 23, 24, 25, 26, 27, 28, 29, 30, 31, 32, 33, 34, 35, 36, 37, 38, 39, 40, 41, 42, 43, 44, 45, 46, 47, 48, 49, 50, 51, 52, 53, 54, 55, 56, 57, 58, 59, 60, 61, 62, 63] rfl rfl (by decide) (by decide) (fun r24 w1 H locs hw hP hD hS => ?_)
                          obtain ⟨hq_, hw⟩ := hw; subst hw; subst hq_
                          obtain ⟨s25, hs26, hB⟩ := letS_inv hB
                          have hP : va_P (dC, dI) vwCl (wX cB cI cJ cZ cS a b b2 c0 rg sl s25) H := by subst hs26; exact hP.sub [59, 60, 61, 62, 63, 0, 1, 2, 3, 4, 5, 6, 7, 8, 9, 10, 11, 12, 13, 14, 15, 16, 17, 18, 19, 20, 21, 22, 23, 24, 25, 26, 27, 28, 29, 30, 31, 32, 33, 34, 35, 36, 37, 38, 39, 40, 41, 42, 43, 44, 45, 46, 47, 48, 49, 50, 51, 52, 53, 54, 55, 56, 57, 58] rfl
                          have hD : va_D A (wX cB cI cJ cZ cS a b b2 c0 rg sl s25) := by subst hs26; exact hD.sub [59, 60, 61, 62, 63, 0, 1, 2, 3, 4, 5, 6, 7, 8, 9, 10, 11, 12, 13, 14, 15, 16, 17, 18, 19, 20, 21, 22, 23, 24, 25, 26, 27, 28, 29, 30, 31, 32, 33, 34, 35, 36, 37, 38, 39, 40, 41, 42, 43, 44, 45, 46, 47, 48, 49, 50, 51, 52, 53, 54, 55, 56, 57, 58] (by decide) rfl
                          exact q_iret C hr hlocks hK hP hD hS (Nat.le_of_ble_eq_true rfl) (Nat.le_of_ble_eq_true rfl) dX10_count_196 (by cases hB; exact ⟨rfl, rfl⟩)
                        · have hB := if_n hB e22
                          by_cases e27 : x1 = 12
                          · have hB := if_p hB e27
                            refine q_top (y := 12) e27 ?_
                            refine lv_tableIn (off := 196) (tgt := 197) hx hb dX10_count_1 (by decide +kernel) (by decide +kernel) (by decide +kernel) (by decide) ?_
                            refine lv_aload_n hx hb dX10_count_197 rfl (lv_at hl 0 rfl) ?_
                            obtain ⟨q_, s28, hc, hB⟩ := bindI_inv hB
                            refine q_goiF (va_runV (As := []) (rest := []) C (ckX10_buoysLying hc _) (cwV 0 hts gX10_count_X10_buoysLying rfl rfl rfl (by decide +kernel) ⟨Nat.le_of_ble_eq_true rfl, Nat.le_of_ble_eq_true rfl⟩) (q_preV hK hP (ci := 10) (q0 := 0) rfl rfl rfl (q_preF hN hK hP hD)) rfl rfl hl.1 rfl (lv_room (Nat.le_of_ble_eq_true rfl)) dX10_count_198 ⟨Nat.le_of_ble_eq_true rfl, Nat.le_of_ble_eq_true rfl⟩) hD hS hA (fun r29 w1 H locs hw hP hD hS => ?_)
                            obtain ⟨hq_, hw⟩ := hw; subst hw; subst hq_
                            exact q_iret C hr hlocks hK hP hD hS (Nat.le_of_ble_eq_true rfl) (Nat.le_of_ble_eq_true rfl) dX10_count_201 (by cases hB; exact ⟨rfl, rfl⟩)
                          · have hB := if_n hB e27
                            by_cases e30 : x1 = 13
                            · have hB := if_p hB e30
                              refine q_top (y := 13) e30 ?_
                              refine lv_tableIn (off := 201) (tgt := 202) hx hb dX10_count_1 (by decide +kernel) (by decide +kernel) (by decide +kernel) (by decide) ?_
                              refine lv_aload_n hx hb dX10_count_202 rfl (lv_at hl 0 rfl) ?_
                              obtain ⟨q_, s31, hc, hB⟩ := bindI_inv hB
                              refine q_goiF (va_runV (As := []) (rest := []) C (ckX10_wavesFound hc _) (cwV 0 hts gX10_count_X10_wavesFound rfl rfl rfl (by decide +kernel) ⟨Nat.le_of_ble_eq_true rfl, Nat.le_of_ble_eq_true rfl⟩) (q_preV hK hP (ci := 10) (q0 := 0) rfl rfl rfl (q_preF hN hK hP hD)) rfl rfl hl.1 rfl (lv_room (Nat.le_of_ble_eq_true rfl)) dX10_count_203 ⟨Nat.le_of_ble_eq_true rfl, Nat.le_of_ble_eq_true rfl⟩) hD hS hA (fun r32 w1 H locs hw hP hD hS => ?_)
                              obtain ⟨hq_, hw⟩ := hw; subst hw; subst hq_
                              exact q_iret C hr hlocks hK hP hD hS (Nat.le_of_ble_eq_true rfl) (Nat.le_of_ble_eq_true rfl) dX10_count_206 (by cases hB; exact ⟨rfl, rfl⟩)
                            · have hB := if_n hB e30
                              by_cases e33 : x1 = 14
                              · have hB := if_p hB e33
                                refine q_top (y := 14) e33 ?_
                                refine lv_tableIn (off := 206) (tgt := 207) hx hb dX10_count_1 (by decide +kernel) (by decide +kernel) (by decide +kernel) (by decide) ?_
                                refine lv_aload_n hx hb dX10_count_207 rfl (lv_at hl 0 rfl) ?_
                                refine q_get (v := .ref (a 2)) C inX10_count_X10 hK hP 0 rfl rfl 1 (by decide) rfl LX10_count_19 rfl dX10_count_208 ?_
                                refine q_getN (v := .int (s.k.v 3)) C hN inX10_count_X5 hK hP 19 rfl rfl 8 (by decide) rfl nwF_X10_305 rfl dX10_count_211 ?_
                                exact q_iret C hr hlocks hK hP hD hS (Nat.le_of_ble_eq_true rfl) (Nat.le_of_ble_eq_true rfl) dX10_count_214 (by cases hB; exact ⟨rfl, rfl⟩)
                              · have hB := if_n hB e33
                                by_cases e34 : x1 = 15
                                · have hB := if_p hB e34
                                  refine q_top (y := 15) e34 ?_
                                  refine lv_tableIn (off := 214) (tgt := 215) hx hb dX10_count_1 (by decide +kernel) (by decide +kernel) (by decide +kernel) (by decide) ?_
                                  refine lv_aload_n hx hb dX10_count_215 rfl (lv_at hl 0 rfl) ?_
                                  refine q_get (v := .ref (a 35)) C inX10_count_X10 hK hP 0 rfl rfl 6 (by decide) rfl LX10_count_54 rfl dX10_count_216 ?_
                                  refine lv_aload_n hx hb dX10_count_219 rfl (lv_at hl 0 rfl) ?_
                                  refine q_get (v := .ref (b 0)) C inX10_count_X10 hK hP 0 rfl rfl 3 (by decide) rfl LX10_count_35 rfl dX10_count_220 ?_
                                  refine lv_aload_n hx hb dX10_count_223 rfl (lv_at hl 0 rfl) ?_
                                  refine q_get (v := .ref (a 2)) C inX10_count_X10 hK hP 0 rfl rfl 1 (by decide) rfl LX10_count_19 rfl dX10_count_224 ?_
                                  refine q_getN (v := .int (s.k.v 4)) C hN inX10_count_X5 hK hP 19 rfl rfl 9 (by decide) rfl nwF_X10_253 rfl dX10_count_227 ?_
                                  obtain ⟨q_, s35, hc, hB⟩ := bindI_inv hB
                                  refine q_goi (wr := ((wG cZ cS a b b2 c0 rg sl s.g) ++ (wD cI b2 s.t))) (va_runVN (As := [.ref (b 0), .int (s.k.v 4)]) (rest := []) C (ckX0_guessThere hc _) ⟨va_cnB 2 hts gX10_count_X0_guessThere_n256 rfl rfl rfl (hN _ nwM_X10_256 rfl) (hts _ LX10_count_I_X0) (by decide +kernel) ⟨Nat.le_of_ble_eq_true rfl, Nat.le_of_ble_eq_true rfl⟩, hts _ LX10_count_N_X0_guessThere, hts _ LX10_count_E_X0_guessThere⟩ (q_preV hK hP (ci := 0) (q0 := 52) rfl rfl rfl (q_pre hN hK hP hD [11, 12, 13, 14, 15, 16, 17, 18, 19, 20, 21, 22, 23, 24, 25, 26, 27, 28, 29, 30, 31, 32, 33, 34, 35, 36, 37, 38, 39, 40, 41, 42, 43, 44, 45, 46, 47, 48, 49, 50, 51, 52, 53, 54, 55, 56, 57, 58, 59, 60, 61, 62, 63] rfl (by decide))) rfl rfl hl.1 rfl (lv_room (Nat.le_of_ble_eq_true rfl)) dX10_count_230 ⟨Nat.le_of_ble_eq_true rfl, Nat.le_of_ble_eq_true rfl⟩) hP hD hS hA [11, 12, 13, 14, 15, 16, 17, 18, 19, 20, 21, 22, 23, 24, 25, 26, 27, 28, 29, 30, 31, 32, 33, 34, 35, 36, 37, 38, 39, 40, 41, 42, 43, 44, 45, 46, 47, 48, 49, 50, 51, 52, 53, 54, 55, 56, 57, 58, 59, 60, 61, 62, 63] [0, 1, 2, 3, 4, 5, 6, 7, 8, 9, 10] rfl rfl (by decide) (by decide) (fun r36 w1 H locs hw hP hD hS => ?_)
                                  obtain ⟨hq_, hw⟩ := hw; subst hw; subst hq_
                                  obtain ⟨s37, hs38, hB⟩ := letS_inv hB
                                  have hP : va_P (dC, dI) vwCl (wX cB cI cJ cZ cS a b b2 c0 rg sl s37) H := by subst hs38; exact hP
                                  have hD : va_D A (wX cB cI cJ cZ cS a b b2 c0 rg sl s37) := by subst hs38; exact hD
                                  exact q_iret C hr hlocks hK hP hD hS (Nat.le_of_ble_eq_true rfl) (Nat.le_of_ble_eq_true rfl) dX10_count_233 (by cases hB; exact ⟨rfl, rfl⟩)
                                · have hB := if_n hB e34
                                  by_cases e39 : x1 = 16
                                  · have hB := if_p hB e39
                                    refine q_top (y := 16) e39 ?_
                                    refine lv_tableIn (off := 233) (tgt := 234) hx hb dX10_count_1 (by decide +kernel) (by decide +kernel) (by decide +kernel) (by decide) ?_
                                    refine lv_aload_n hx hb dX10_count_234 rfl (lv_at hl 0 rfl) ?_
                                    refine q_get (v := .ref (b 0)) C inX10_count_X10 hK hP 0 rfl rfl 3 (by decide) rfl LX10_count_35 rfl dX10_count_235 ?_
                                    refine q_getN (v := .ref (b 3)) C hN inX10_count_X6 hK hP 11 rfl rfl 2 (by decide) rfl nwF_X10_122 rfl dX10_count_238 ?_
                                    obtain ⟨q_, s40, hc, hB⟩ := bindI_inv hB
                                    refine q_goi (wr := (((wX cB cI cJ cZ cS a b b2 c0 rg sl s)).eraseIdx 14)) (va_runS (As := [.ref (b 3)]) (rest := []) C (ckX10_sumOf_5 hc _) (va_cwS 1 hts gX10_count_X10_sumOf rfl rfl rfl (by decide +kernel) ⟨Nat.le_of_ble_eq_true rfl, Nat.le_of_ble_eq_true rfl⟩) (q_pre hN hK hP hD [14] rfl (by decide)) rfl rfl hl.1 rfl (lv_room (Nat.le_of_ble_eq_true rfl)) dX10_count_241 ⟨Nat.le_of_ble_eq_true rfl, Nat.le_of_ble_eq_true rfl⟩) hP hD hS hA [14] [0, 1, 2, 3, 4, 5, 6, 7, 8, 9, 10, 11, 12, 13, 15, 16, 17, 18, 19, 20, 21, 22, 23, 24, 25, 26, 27, 28, 29, 30, 31, 32, 33, 34, 35, 36, 37, 38, 39, 40, 41, 42, 43, 44, 45, 46, 47, 48, 49, 50, 51, 52, 53, 54, 55, 56, 57, 58, 59, 60, 61, 62, 63] rfl rfl (by decide) (by decide) (fun r41 w1 H locs hw hP hD hS => ?_)
                                    obtain ⟨hq_, hw⟩ := hw; subst hw; subst hq_
                                    obtain ⟨s42, hs43, hB⟩ := letS_inv hB
                                    have hP : va_P (dC, dI) vwCl (wX cB cI cJ cZ cS a b b2 c0 rg sl s42) H := by subst hs43; exact hP.sub [0, 1, 2, 3, 4, 5, 6, 7, 8, 9, 10, 11, 12, 13, 63, 14, 15, 16, 17, 18, 19, 20, 21, 22, 23, 24, 25, 26, 27, 28, 29, 30, 31, 32, 33, 34, 35, 36, 37, 38, 39, 40, 41, 42, 43, 44, 45, 46, 47, 48, 49, 50, 51, 52, 53, 54, 55, 56, 57, 58, 59, 60, 61, 62] rfl
                                    have hD : va_D A (wX cB cI cJ cZ cS a b b2 c0 rg sl s42) := by subst hs43; exact hD.sub [0, 1, 2, 3, 4, 5, 6, 7, 8, 9, 10, 11, 12, 13, 63, 14, 15, 16, 17, 18, 19, 20, 21, 22, 23, 24, 25, 26, 27, 28, 29, 30, 31, 32, 33, 34, 35, 36, 37, 38, 39, 40, 41, 42, 43, 44, 45, 46, 47, 48, 49, 50, 51, 52, 53, 54, 55, 56, 57, 58, 59, 60, 61, 62] (by decide) rfl
                                    exact q_iret C hr hlocks hK hP hD hS (Nat.le_of_ble_eq_true rfl) (Nat.le_of_ble_eq_true rfl) dX10_count_244 (by cases hB; exact ⟨rfl, rfl⟩)
                                  · have hB := if_n hB e39
                                    by_cases e44 : x1 = 17
                                    · have hB := if_p hB e44
                                      refine q_top (y := 17) e44 ?_
                                      refine lv_tableIn (off := 244) (tgt := 245) hx hb dX10_count_1 (by decide +kernel) (by decide +kernel) (by decide +kernel) (by decide) ?_
                                      refine lv_aload_n hx hb dX10_count_245 rfl (lv_at hl 0 rfl) ?_
                                      obtain ⟨q_, s45, hc, hB⟩ := bindI_inv hB
                                      refine q_goiF (va_runV (As := []) (rest := []) C (ckX10_wavesWithNothing hc _) (cwV 0 hts gX10_count_X10_wavesWithNothing rfl rfl rfl (by decide +kernel) ⟨Nat.le_of_ble_eq_true rfl, Nat.le_of_ble_eq_true rfl⟩) (q_preV hK hP (ci := 10) (q0 := 0) rfl rfl rfl (q_preF hN hK hP hD)) rfl rfl hl.1 rfl (lv_room (Nat.le_of_ble_eq_true rfl)) dX10_count_246 ⟨Nat.le_of_ble_eq_true rfl, Nat.le_of_ble_eq_true rfl⟩) hD hS hA (fun r46 w1 H locs hw hP hD hS => ?_)
                                      obtain ⟨hq_, hw⟩ := hw; subst hw; subst hq_
                                      exact q_iret C hr hlocks hK hP hD hS (Nat.le_of_ble_eq_true rfl) (Nat.le_of_ble_eq_true rfl) dX10_count_249 (by cases hB; exact ⟨rfl, rfl⟩)
                                    · have hB := if_n hB e44
                                      by_cases e47 : x1 = 18
                                      · have hB := if_p hB e47
                                        refine q_top (y := 18) e47 ?_
                                        refine lv_tableIn (off := 249) (tgt := 250) hx hb dX10_count_1 (by decide +kernel) (by decide +kernel) (by decide +kernel) (by decide) ?_
                                        refine lv_aload_n hx hb dX10_count_250 rfl (lv_at hl 0 rfl) ?_
                                        obtain ⟨q_, s48, hc, hB⟩ := bindI_inv hB
                                        refine q_goiF (va_runV (As := []) (rest := []) C (ckX10_faresOfAllHere hc _) (cwV 0 hts gX10_count_X10_faresOfAllHere rfl rfl rfl (by decide +kernel) ⟨Nat.le_of_ble_eq_true rfl, Nat.le_of_ble_eq_true rfl⟩) (q_preV hK hP (ci := 10) (q0 := 0) rfl rfl rfl (q_preF hN hK hP hD)) rfl rfl hl.1 rfl (lv_room (Nat.le_of_ble_eq_true rfl)) dX10_count_251 ⟨Nat.le_of_ble_eq_true rfl, Nat.le_of_ble_eq_true rfl⟩) hD hS hA (fun r49 w1 H locs hw hP hD hS => ?_)
                                        obtain ⟨hq_, hw⟩ := hw; subst hw; subst hq_
                                        exact q_iret C hr hlocks hK hP hD hS (Nat.le_of_ble_eq_true rfl) (Nat.le_of_ble_eq_true rfl) dX10_count_254 (by cases hB; exact ⟨rfl, rfl⟩)
                                      · have hB := if_n hB e47
                                        refine lv_tableOut (tgt := 255) hx hb dX10_count_1 (by have := ne_toInt (k := 0) rfl e1; have := ne_toInt (k := 1) rfl e2; have := ne_toInt (k := 2) rfl e3; have := ne_toInt (k := 3) rfl e4; have := ne_toInt (k := 4) rfl e5; have := ne_toInt (k := 5) rfl e8; have := ne_toInt (k := 6) rfl e11; have := ne_toInt (k := 7) rfl e14; have := ne_toInt (k := 8) rfl e19; have := ne_toInt (k := 9) rfl e20; have := ne_toInt (k := 10) rfl e21; have := ne_toInt (k := 11) rfl e22; have := ne_toInt (k := 12) rfl e27; have := ne_toInt (k := 13) rfl e30; have := ne_toInt (k := 14) rfl e33; have := ne_toInt (k := 15) rfl e34; have := ne_toInt (k := 16) rfl e39; have := ne_toInt (k := 17) rfl e44; have := ne_toInt (k := 18) rfl e47; omega) (by decide) ?_
                                        refine lv_iconst (v := (-1)) hx hb dX10_count_255 (by decide) ?_
                                        exact q_iret C hr hlocks hK hP hD hS (Nat.le_of_ble_eq_true rfl) (Nat.le_of_ble_eq_true rfl) dX10_count_256 (by cases hB; exact ⟨rfl, rfl⟩)
theorem ckX10_count {l : Launch} {dC : Nat → ClassId} {dI : Nat → Nat → Nat} {cB cI cJ cZ cS : ClassId} {a b b2 c0 : Nat → Nat} {rg sl : Nat → Option Nat} {r : Int32} {s' : XS} {s : XS} {x1 : Int32} (hB : kX10_count s x1 = some (r, s')) : CI l yX10_count wsX10_count ({ frames := 5, cells := 0, slots := 0, locals := 120 }) (dC, dI) (tysA cB cI cJ cZ cS) (wX cB cI cJ cZ cS a b b2 c0 rg sl s) [.ref (c0 0), .int x1] (fun x u => x = r ∧ u = (wX cB cI cJ cZ cS a b b2 c0 rg sl s')) :=
  CI_of (cc := cX10_count) (maxL := 2) (ret := (some .int)) (by decide) rfl (Nat.le_of_ble_eq_true rfl) (bkX10_count _ _ hB)
