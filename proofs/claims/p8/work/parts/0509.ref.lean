theorem ggX11_bestFor_X11_mayBe : GoodIn wsX11_bestFor wsX11_mayBe := gi_sub (fun w h => List.mem_cons_of_mem _ (List.mem_append_left _ (List.mem_append_right _ (List.mem_append_left _ h)))) gd_wsX11_mayBe
set_option maxRecDepth 20000 in
theorem gX11_bestFor_X11_mayBe : GoodIn wsX11_bestFor (wsV RX11 388 RX11 yX11_mayBe wsX11_mayBe) := goodIn_app (goodIn_r _ [4, 5, 6, 7] (by decide +kernel) (by decide +kernel)) ggX11_bestFor_X11_mayBe
theorem ggX11_bestFor_X11_doesBear : GoodIn wsX11_bestFor wsX11_doesBear := gi_sub (fun w h => List.mem_cons_of_mem _ (List.mem_append_left _ (List.mem_append_right _ (List.mem_append_right _ (List.mem_append_left _ h))))) gd_wsX11_doesBear
set_option maxRecDepth 20000 in
theorem gX11_bestFor_X11_doesBear : GoodIn wsX11_bestFor (wsV RX11 333 RX11 yX11_doesBear wsX11_doesBear) := goodIn_app (goodIn_r _ [11, 12, 13, 7] (by decide +kernel) (by decide +kernel)) ggX11_bestFor_X11_doesBear
theorem ggX11_bestFor_X11_oddsAt : GoodIn wsX11_bestFor wsX11_oddsAt := gi_sub (fun w h => List.mem_cons_of_mem _ (List.mem_append_left _ (List.mem_append_right _ (List.mem_append_right _ (List.mem_append_right _ h))))) gd_wsX11_oddsAt
set_option maxRecDepth 20000 in
theorem gX11_bestFor_X11_oddsAt : GoodIn wsX11_bestFor (wsV RX11 297 RX11 yX11_oddsAt wsX11_oddsAt) := goodIn_app (goodIn_r _ [8, 9, 10, 7] (by decide +kernel) (by decide +kernel)) ggX11_bestFor_X11_oddsAt
theorem dX11_bestFor_0 : decode cX11_bestFor 0 = .ok (.iconst 0, 1) := dc1_3 (by decide +kernel)
theorem dX11_bestFor_1 : decode cX11_bestFor 1 = .ok (.istore_n 2, 1) := dc1_61 (by decide +kernel)
theorem dX11_bestFor_2 : decode cX11_bestFor 2 = .ok (.iconst 0, 1) := dc1_3 (by decide +kernel)
theorem dX11_bestFor_3 : decode cX11_bestFor 3 = .ok (.istore_n 3, 1) := dc1_62 (by decide +kernel)
theorem dX11_bestFor_4 : decode cX11_bestFor 4 = .ok (.iload_n 3, 1) := dc1_29 (by decide +kernel)
theorem dX11_bestFor_5 : decode cX11_bestFor 5 = .ok (.aload_n 0, 1) := dc1_42 (by decide +kernel)
theorem dX11_bestFor_6 : decode cX11_bestFor 6 = .ok (.getfield 40, 3) := dcw_180 (by decide +kernel)
theorem dX11_bestFor_9 : decode cX11_bestFor 9 = .ok (.aload_n 0, 1) := dc1_42 (by decide +kernel)
theorem dX11_bestFor_10 : decode cX11_bestFor 10 = .ok (.getfield 215, 3) := dcw_180 (by decide +kernel)
theorem dX11_bestFor_13 : decode cX11_bestFor 13 = .ok (.iaload, 1) := dc1_46 (by decide +kernel)
theorem dX11_bestFor_14 : decode cX11_bestFor 14 = .ok (.if_icmp .ge 101, 3) := dcs_162 (n := 101) (by decide +kernel)
theorem dX11_bestFor_17 : decode cX11_bestFor 17 = .ok (.bipush (-2), 2) := dcb_16 (n := 254) (by decide +kernel)
theorem dX11_bestFor_19 : decode cX11_bestFor 19 = .ok (.istore 4, 2) := dcu_54 (by decide +kernel)
theorem dX11_bestFor_21 : decode cX11_bestFor 21 = .ok (.iconst 0, 1) := dc1_3 (by decide +kernel)
theorem dX11_bestFor_22 : decode cX11_bestFor 22 = .ok (.istore 5, 2) := dcu_54 (by decide +kernel)
theorem dX11_bestFor_24 : decode cX11_bestFor 24 = .ok (.iload 5, 2) := dcu_21 (by decide +kernel)
theorem dX11_bestFor_26 : decode cX11_bestFor 26 = .ok (.bipush 6, 2) := dcb_16 (n := 6) (by decide +kernel)
theorem dX11_bestFor_28 : decode cX11_bestFor 28 = .ok (.if_icmp .ge 61, 3) := dcs_162 (n := 61) (by decide +kernel)
theorem dX11_bestFor_31 : decode cX11_bestFor 31 = .ok (.aload_n 0, 1) := dc1_42 (by decide +kernel)
theorem dX11_bestFor_32 : decode cX11_bestFor 32 = .ok (.iload_n 3, 1) := dc1_29 (by decide +kernel)
theorem dX11_bestFor_33 : decode cX11_bestFor 33 = .ok (.iload 5, 2) := dcu_21 (by decide +kernel)
theorem dX11_bestFor_35 : decode cX11_bestFor 35 = .ok (.invokevirtual 388, 3) := dcw_182 (by decide +kernel)
theorem dX11_bestFor_38 : decode cX11_bestFor 38 = .ok (.ifCond .eq 45, 3) := dcs_153 (n := 45) (by decide +kernel)
theorem dX11_bestFor_41 : decode cX11_bestFor 41 = .ok (.iload_n 1, 1) := dc1_27 (by decide +kernel)
theorem dX11_bestFor_42 : decode cX11_bestFor 42 = .ok (.iconst (-1), 1) := dc1_2 (by decide +kernel)
theorem dX11_bestFor_43 : decode cX11_bestFor 43 = .ok (.if_icmp .eq 14, 3) := dcs_159 (n := 14) (by decide +kernel)
theorem dX11_bestFor_46 : decode cX11_bestFor 46 = .ok (.aload_n 0, 1) := dc1_42 (by decide +kernel)
theorem dX11_bestFor_47 : decode cX11_bestFor 47 = .ok (.iload_n 1, 1) := dc1_27 (by decide +kernel)
theorem dX11_bestFor_48 : decode cX11_bestFor 48 = .ok (.iload_n 3, 1) := dc1_29 (by decide +kernel)
theorem dX11_bestFor_49 : decode cX11_bestFor 49 = .ok (.iload 5, 2) := dcu_21 (by decide +kernel)
theorem dX11_bestFor_51 : decode cX11_bestFor 51 = .ok (.invokevirtual 333, 3) := dcw_182 (by decide +kernel)
theorem dX11_bestFor_54 : decode cX11_bestFor 54 = .ok (.ifCond .eq 29, 3) := dcs_153 (n := 29) (by decide +kernel)
theorem dX11_bestFor_57 : decode cX11_bestFor 57 = .ok (.iload 4, 2) := dcu_21 (by decide +kernel)
theorem dX11_bestFor_59 : decode cX11_bestFor 59 = .ok (.ifCond .lt 20, 3) := dcs_155 (n := 20) (by decide +kernel)
theorem dX11_bestFor_62 : decode cX11_bestFor 62 = .ok (.aload_n 0, 1) := dc1_42 (by decide +kernel)
theorem dX11_bestFor_63 : decode cX11_bestFor 63 = .ok (.iload_n 3, 1) := dc1_29 (by decide +kernel)
theorem dX11_bestFor_64 : decode cX11_bestFor 64 = .ok (.iload 5, 2) := dcu_21 (by decide +kernel)
theorem dX11_bestFor_66 : decode cX11_bestFor 66 = .ok (.invokevirtual 297, 3) := dcw_182 (by decide +kernel)
theorem dX11_bestFor_69 : decode cX11_bestFor 69 = .ok (.aload_n 0, 1) := dc1_42 (by decide +kernel)
theorem dX11_bestFor_70 : decode cX11_bestFor 70 = .ok (.iload_n 3, 1) := dc1_29 (by decide +kernel)
theorem dX11_bestFor_71 : decode cX11_bestFor 71 = .ok (.iload 4, 2) := dcu_21 (by decide +kernel)
theorem dX11_bestFor_73 : decode cX11_bestFor 73 = .ok (.invokevirtual 297, 3) := dcw_182 (by decide +kernel)
theorem dX11_bestFor_76 : decode cX11_bestFor 76 = .ok (.if_icmp .le 7, 3) := dcs_164 (n := 7) (by decide +kernel)
theorem dX11_bestFor_79 : decode cX11_bestFor 79 = .ok (.iload 5, 2) := dcu_21 (by decide +kernel)
theorem dX11_bestFor_81 : decode cX11_bestFor 81 = .ok (.istore 4, 2) := dcu_54 (by decide +kernel)
theorem dX11_bestFor_83 : decode cX11_bestFor 83 = .ok (.iinc 5 1, 3) := dc_iinc (m := 1) (by decide +kernel)
theorem dX11_bestFor_86 : decode cX11_bestFor 86 = .ok (.goto (-62), 3) := dcs_167 (n := 65474) (by decide +kernel)
theorem dX11_bestFor_89 : decode cX11_bestFor 89 = .ok (.iload 4, 2) := dcu_21 (by decide +kernel)
theorem dX11_bestFor_91 : decode cX11_bestFor 91 = .ok (.ifCond .ge 6, 3) := dcs_156 (n := 6) (by decide +kernel)
theorem dX11_bestFor_94 : decode cX11_bestFor 94 = .ok (.bipush (-2), 2) := dcb_16 (n := 254) (by decide +kernel)
theorem dX11_bestFor_96 : decode cX11_bestFor 96 = .ok (.ireturn, 1) := dc1_172 (by decide +kernel)
theorem dX11_bestFor_97 : decode cX11_bestFor 97 = .ok (.iload_n 2, 1) := dc1_28 (by decide +kernel)
theorem dX11_bestFor_98 : decode cX11_bestFor 98 = .ok (.aload_n 0, 1) := dc1_42 (by decide +kernel)
theorem dX11_bestFor_99 : decode cX11_bestFor 99 = .ok (.getfield 104, 3) := dcw_180 (by decide +kernel)
theorem dX11_bestFor_102 : decode cX11_bestFor 102 = .ok (.iload_n 3, 1) := dc1_29 (by decide +kernel)
theorem dX11_bestFor_103 : decode cX11_bestFor 103 = .ok (.iaload, 1) := dc1_46 (by decide +kernel)
theorem dX11_bestFor_104 : decode cX11_bestFor 104 = .ok (.iload 4, 2) := dcu_21 (by decide +kernel)
theorem dX11_bestFor_106 : decode cX11_bestFor 106 = .ok (.imul, 1) := dc1_104 (by decide +kernel)
theorem dX11_bestFor_107 : decode cX11_bestFor 107 = .ok (.iadd, 1) := dc1_96 (by decide +kernel)
theorem dX11_bestFor_108 : decode cX11_bestFor 108 = .ok (.istore_n 2, 1) := dc1_61 (by decide +kernel)
theorem dX11_bestFor_109 : decode cX11_bestFor 109 = .ok (.iinc 3 1, 3) := dc_iinc (m := 1) (by decide +kernel)
theorem dX11_bestFor_112 : decode cX11_bestFor 112 = .ok (.goto (-108), 3) := dcs_167 (n := 65428) (by decide +kernel)
theorem dX11_bestFor_115 : decode cX11_bestFor 115 = .ok (.iload_n 2, 1) := dc1_28 (by decide +kernel)
theorem dX11_bestFor_116 : decode cX11_bestFor 116 = .ok (.ireturn, 1) := dc1_172 (by decide +kernel)
theorem ggX11_likeliest_X11_copies : GoodIn wsX11_likeliest wsX11_copies := gi_sub (fun w h => List.mem_cons_of_mem _ (List.mem_append_left _ (List.mem_append_right _ (List.mem_append_left _ h)))) gd_wsX11_copies
set_option maxRecDepth 20000 in
theorem gX11_likeliest_X11_copies : GoodIn wsX11_likeliest (wsV RX11 352 RX11 yX11_copies wsX11_copies) := goodIn_app (goodIn_r _ [1, 2, 3, 4] (by decide +kernel) (by decide +kernel)) ggX11_likeliest_X11_copies
theorem ggX11_likeliest_X11_bestFor : GoodIn wsX11_likeliest wsX11_bestFor := gi_sub (fun w h => List.mem_cons_of_mem _ (List.mem_append_left _ (List.mem_append_right _ (List.mem_append_right _ h)))) gd_wsX11_bestFor
set_option maxRecDepth 20000 in
theorem gX11_likeliest_X11_bestFor : GoodIn wsX11_likeliest (wsV RX11 398 RX11 yX11_bestFor wsX11_bestFor) := goodIn_app (goodIn_r _ [5, 6, 7, 4] (by decide +kernel) (by decide +kernel)) ggX11_likeliest_X11_bestFor
theorem dX11_likeliest_0 : decode cX11_likeliest 0 = .ok (.aload_n 0, 1) := dc1_42 (by decide +kernel)
theorem dX11_likeliest_1 : decode cX11_likeliest 1 = .ok (.invokevirtual 352, 3) := dcw_182 (by decide +kernel)
theorem dX11_likeliest_4 : decode cX11_likeliest 4 = .ok (.aload_n 0, 1) := dc1_42 (by decide +kernel)
theorem dX11_likeliest_5 : decode cX11_likeliest 5 = .ok (.iconst (-1), 1) := dc1_2 (by decide +kernel)
theorem dX11_likeliest_6 : decode cX11_likeliest 6 = .ok (.invokevirtual 398, 3) := dcw_182 (by decide +kernel)
theorem dX11_likeliest_9 : decode cX11_likeliest 9 = .ok (.ireturn, 1) := dc1_172 (by decide +kernel)
theorem ggX11_bears_X11_isParty : GoodIn wsX11_bears wsX11_isParty := gi_sub (fun w h => List.mem_cons_of_mem _ (List.mem_append_left _ (List.mem_append_right _ (List.mem_append_left _ h)))) gd_wsX11_isParty
set_option maxRecDepth 20000 in
theorem gX11_bears_X11_isParty : GoodIn wsX11_bears (wsV RX11 358 RX11 yX11_isParty wsX11_isParty) := goodIn_app (goodIn_r _ [1, 2, 3, 4] (by decide +kernel) (by decide +kernel)) ggX11_bears_X11_isParty
theorem ggX11_bears_X11_isGuess : GoodIn wsX11_bears wsX11_isGuess := gi_sub (fun w h => List.mem_cons_of_mem _ (List.mem_append_left _ (List.mem_append_right _ (List.mem_append_right _ (List.mem_append_left _ h))))) gd_wsX11_isGuess
set_option maxRecDepth 20000 in
theorem gX11_bears_X11_isGuess : GoodIn wsX11_bears (wsV RX11 367 RX11 yX11_isGuess wsX11_isGuess) := goodIn_app (goodIn_r _ [5, 6, 7, 4] (by decide +kernel) (by decide +kernel)) ggX11_bears_X11_isGuess
theorem ggX11_bears_X11_copies : GoodIn wsX11_bears wsX11_copies := gi_sub (fun w h => List.mem_cons_of_mem _ (List.mem_append_left _ (List.mem_append_right _ (List.mem_append_right _ (List.mem_append_right _ (List.mem_append_left _ h)))))) gd_wsX11_copies
set_option maxRecDepth 20000 in
theorem gX11_bears_X11_copies : GoodIn wsX11_bears (wsV RX11 352 RX11 yX11_copies wsX11_copies) := goodIn_app (goodIn_r _ [8, 9, 10, 4] (by decide +kernel) (by decide +kernel)) ggX11_bears_X11_copies
theorem ggX11_bears_X11_bearsBy : GoodIn wsX11_bears wsX11_bearsBy := gi_sub (fun w h => List.mem_cons_of_mem _ (List.mem_append_left _ (List.mem_append_right _ (List.mem_append_right _ (List.mem_append_right _ (List.mem_append_right _ h)))))) gd_wsX11_bearsBy
set_option maxRecDepth 20000 in
theorem gX11_bears_X11_bearsBy : GoodIn wsX11_bears (wsV RX11 336 RX11 yX11_bearsBy wsX11_bearsBy) := goodIn_app (goodIn_r _ [11, 12, 13, 4] (by decide +kernel) (by decide +kernel)) ggX11_bears_X11_bearsBy
theorem dX11_bears_0 : decode cX11_bears 0 = .ok (.aload_n 0, 1) := dc1_42 (by decide +kernel)
theorem dX11_bears_1 : decode cX11_bears 1 = .ok (.iload_n 1, 1) := dc1_27 (by decide +kernel)
theorem dX11_bears_2 : decode cX11_bears 2 = .ok (.invokevirtual 358, 3) := dcw_182 (by decide +kernel)
theorem dX11_bears_5 : decode cX11_bears 5 = .ok (.ifCond .eq 11, 3) := dcs_153 (n := 11) (by decide +kernel)
theorem dX11_bears_8 : decode cX11_bears 8 = .ok (.aload_n 0, 1) := dc1_42 (by decide +kernel)
theorem dX11_bears_9 : decode cX11_bears 9 = .ok (.iload_n 2, 1) := dc1_28 (by decide +kernel)
theorem dX11_bears_10 : decode cX11_bears 10 = .ok (.invokevirtual 367, 3) := dcw_182 (by decide +kernel)
theorem dX11_bears_13 : decode cX11_bears 13 = .ok (.ifCond .ne 5, 3) := dcs_154 (n := 5) (by decide +kernel)
theorem dX11_bears_16 : decode cX11_bears 16 = .ok (.iconst (-1), 1) := dc1_2 (by decide +kernel)
theorem dX11_bears_17 : decode cX11_bears 17 = .ok (.ireturn, 1) := dc1_172 (by decide +kernel)
theorem dX11_bears_18 : decode cX11_bears 18 = .ok (.aload_n 0, 1) := dc1_42 (by decide +kernel)
theorem dX11_bears_19 : decode cX11_bears 19 = .ok (.invokevirtual 352, 3) := dcw_182 (by decide +kernel)
theorem dX11_bears_22 : decode cX11_bears 22 = .ok (.aload_n 0, 1) := dc1_42 (by decide +kernel)
theorem dX11_bears_23 : decode cX11_bears 23 = .ok (.iload_n 1, 1) := dc1_27 (by decide +kernel)
theorem dX11_bears_24 : decode cX11_bears 24 = .ok (.iload_n 2, 1) := dc1_28 (by decide +kernel)
theorem dX11_bears_25 : decode cX11_bears 25 = .ok (.invokevirtual 336, 3) := dcw_182 (by decide +kernel)
theorem dX11_bears_28 : decode cX11_bears 28 = .ok (.ireturn, 1) := dc1_172 (by decide +kernel)
theorem ggX11_safest_X11_isParty : GoodIn wsX11_safest wsX11_isParty := gi_sub (fun w h => List.mem_cons_of_mem _ (List.mem_append_left _ (List.mem_append_right _ (List.mem_append_left _ h)))) gd_wsX11_isParty
set_option maxRecDepth 20000 in
theorem gX11_safest_X11_isParty : GoodIn wsX11_safest (wsV RX11 358 RX11 yX11_isParty wsX11_isParty) := goodIn_app (goodIn_r _ [1, 2, 3, 4] (by decide +kernel) (by decide +kernel)) ggX11_safest_X11_isParty
theorem ggX11_safest_X11_copies : GoodIn wsX11_safest wsX11_copies := gi_sub (fun w h => List.mem_cons_of_mem _ (List.mem_append_left _ (List.mem_append_right _ (List.mem_append_right _ (List.mem_append_left _ h))))) gd_wsX11_copies
set_option maxRecDepth 20000 in
theorem gX11_safest_X11_copies : GoodIn wsX11_safest (wsV RX11 352 RX11 yX11_copies wsX11_copies) := goodIn_app (goodIn_r _ [5, 6, 7, 4] (by decide +kernel) (by decide +kernel)) ggX11_safest_X11_copies
theorem ggX11_safest_X11_bestFor : GoodIn wsX11_safest wsX11_bestFor := gi_sub (fun w h => List.mem_cons_of_mem _ (List.mem_append_left _ (List.mem_append_right _ (List.mem_append_right _ (List.mem_append_right _ h))))) gd_wsX11_bestFor
set_option maxRecDepth 20000 in
theorem gX11_safest_X11_bestFor : GoodIn wsX11_safest (wsV RX11 398 RX11 yX11_bestFor wsX11_bestFor) := goodIn_app (goodIn_r _ [8, 9, 10, 4] (by decide +kernel) (by decide +kernel)) ggX11_safest_X11_bestFor
theorem dX11_safest_0 : decode cX11_safest 0 = .ok (.aload_n 0, 1) := dc1_42 (by decide +kernel)
theorem dX11_safest_1 : decode cX11_safest 1 = .ok (.iload_n 1, 1) := dc1_27 (by decide +kernel)
theorem dX11_safest_2 : decode cX11_safest 2 = .ok (.invokevirtual 358, 3) := dcw_182 (by decide +kernel)
theorem dX11_safest_5 : decode cX11_safest 5 = .ok (.ifCond .ne 5, 3) := dcs_154 (n := 5) (by decide +kernel)
theorem dX11_safest_8 : decode cX11_safest 8 = .ok (.iconst (-1), 1) := dc1_2 (by decide +kernel)
theorem dX11_safest_9 : decode cX11_safest 9 = .ok (.ireturn, 1) := dc1_172 (by decide +kernel)
theorem dX11_safest_10 : decode cX11_safest 10 = .ok (.aload_n 0, 1) := dc1_42 (by decide +kernel)
theorem dX11_safest_11 : decode cX11_safest 11 = .ok (.invokevirtual 352, 3) := dcw_182 (by decide +kernel)
theorem dX11_safest_14 : decode cX11_safest 14 = .ok (.aload_n 0, 1) := dc1_42 (by decide +kernel)
theorem dX11_safest_15 : decode cX11_safest 15 = .ok (.iload_n 1, 1) := dc1_27 (by decide +kernel)
theorem dX11_safest_16 : decode cX11_safest 16 = .ok (.invokevirtual 398, 3) := dcw_182 (by decide +kernel)
theorem dX11_safest_19 : decode cX11_safest 19 = .ok (.ireturn, 1) := dc1_172 (by decide +kernel)
theorem ggX11_enough_X11_copies : GoodIn wsX11_enough wsX11_copies := gi_sub (fun w h => List.mem_cons_of_mem _ (List.mem_append_left _ (List.mem_append_right _ (List.mem_append_left _ h)))) gd_wsX11_copies
set_option maxRecDepth 20000 in
theorem gX11_enough_X11_copies : GoodIn wsX11_enough (wsV RX11 352 RX11 yX11_copies wsX11_copies) := goodIn_app (goodIn_r _ [3, 4, 5, 6] (by decide +kernel) (by decide +kernel)) ggX11_enough_X11_copies
theorem ggX11_enough_X11_casesNow : GoodIn wsX11_enough wsX11_casesNow := gi_sub (fun w h => List.mem_cons_of_mem _ (List.mem_append_left _ (List.mem_append_right _ (List.mem_append_right _ (List.mem_append_left _ h))))) gd_wsX11_casesNow
set_option maxRecDepth 20000 in
theorem gX11_enough_X11_casesNow : GoodIn wsX11_enough (wsV RX11 385 RX11 yX11_casesNow wsX11_casesNow) := goodIn_app (goodIn_r _ [7, 8, 9, 6] (by decide +kernel) (by decide +kernel)) ggX11_enough_X11_casesNow
theorem ggX11_enough_X11_mayAt : GoodIn wsX11_enough wsX11_mayAt := gi_sub (fun w h => List.mem_cons_of_mem _ (List.mem_append_left _ (List.mem_append_right _ (List.mem_append_right _ (List.mem_append_right _ (List.mem_append_left _ h)))))) gd_wsX11_mayAt
set_option maxRecDepth 20000 in
theorem gX11_enough_X11_mayAt : GoodIn wsX11_enough (wsV RX11 309 RX11 yX11_mayAt wsX11_mayAt) := goodIn_app (goodIn_r _ [10, 11, 12, 6] (by decide +kernel) (by decide +kernel)) ggX11_enough_X11_mayAt
theorem ggX11_enough_X11_bits : GoodIn wsX11_enough wsX11_bits := gi_sub (fun w h => List.mem_cons_of_mem _ (List.mem_append_left _ (List.mem_append_right _ (List.mem_append_right _ (List.mem_append_right _ (List.mem_append_right _ h)))))) gd_wsX11_bits
set_option maxRecDepth 20000 in
theorem gX11_enough_X11_bits : GoodIn wsX11_enough (va_wsS RX11 312 yX11_bits wsX11_bits) := goodIn_app (goodIn_of _ (by decide +kernel)) ggX11_enough_X11_bits
theorem dX11_enough_0 : decode cX11_enough 0 = .ok (.aload_n 0, 1) := dc1_42 (by decide +kernel)
theorem dX11_enough_1 : decode cX11_enough 1 = .ok (.invokevirtual 352, 3) := dcw_182 (by decide +kernel)
theorem dX11_enough_4 : decode cX11_enough 4 = .ok (.aload_n 0, 1) := dc1_42 (by decide +kernel)
theorem dX11_enough_5 : decode cX11_enough 5 = .ok (.invokevirtual 385, 3) := dcw_182 (by decide +kernel)
theorem dX11_enough_8 : decode cX11_enough 8 = .ok (.ifCond .ne 6, 3) := dcs_154 (n := 6) (by decide +kernel)
theorem dX11_enough_11 : decode cX11_enough 11 = .ok (.bipush (-2), 2) := dcb_16 (n := 254) (by decide +kernel)
theorem dX11_enough_13 : decode cX11_enough 13 = .ok (.ireturn, 1) := dc1_172 (by decide +kernel)
theorem dX11_enough_14 : decode cX11_enough 14 = .ok (.iconst 1, 1) := dc1_4 (by decide +kernel)
theorem dX11_enough_15 : decode cX11_enough 15 = .ok (.istore_n 1, 1) := dc1_60 (by decide +kernel)
theorem dX11_enough_16 : decode cX11_enough 16 = .ok (.iconst 0, 1) := dc1_3 (by decide +kernel)
theorem dX11_enough_17 : decode cX11_enough 17 = .ok (.istore_n 2, 1) := dc1_61 (by decide +kernel)
theorem dX11_enough_18 : decode cX11_enough 18 = .ok (.iload_n 2, 1) := dc1_28 (by decide +kernel)
theorem dX11_enough_19 : decode cX11_enough 19 = .ok (.aload_n 0, 1) := dc1_42 (by decide +kernel)
theorem dX11_enough_20 : decode cX11_enough 20 = .ok (.getfield 40, 3) := dcw_180 (by decide +kernel)
theorem dX11_enough_23 : decode cX11_enough 23 = .ok (.aload_n 0, 1) := dc1_42 (by decide +kernel)
theorem dX11_enough_24 : decode cX11_enough 24 = .ok (.getfield 215, 3) := dcw_180 (by decide +kernel)
theorem dX11_enough_27 : decode cX11_enough 27 = .ok (.iaload, 1) := dc1_46 (by decide +kernel)
theorem dX11_enough_28 : decode cX11_enough 28 = .ok (.if_icmp .ge 22, 3) := dcs_162 (n := 22) (by decide +kernel)
theorem dX11_enough_31 : decode cX11_enough 31 = .ok (.iload_n 1, 1) := dc1_27 (by decide +kernel)
theorem dX11_enough_32 : decode cX11_enough 32 = .ok (.aload_n 0, 1) := dc1_42 (by decide +kernel)
theorem dX11_enough_33 : decode cX11_enough 33 = .ok (.iload_n 2, 1) := dc1_28 (by decide +kernel)
theorem dX11_enough_34 : decode cX11_enough 34 = .ok (.invokevirtual 309, 3) := dcw_182 (by decide +kernel)
theorem dX11_enough_37 : decode cX11_enough 37 = .ok (.invokestatic 312, 3) := dcw_184 (by decide +kernel)
theorem dX11_enough_40 : decode cX11_enough 40 = .ok (.iconst 1, 1) := dc1_4 (by decide +kernel)
theorem dX11_enough_41 : decode cX11_enough 41 = .ok (.isub, 1) := dc1_100 (by decide +kernel)
theorem dX11_enough_42 : decode cX11_enough 42 = .ok (.iadd, 1) := dc1_96 (by decide +kernel)
theorem dX11_enough_43 : decode cX11_enough 43 = .ok (.istore_n 1, 1) := dc1_60 (by decide +kernel)
theorem dX11_enough_44 : decode cX11_enough 44 = .ok (.iinc 2 1, 3) := dc_iinc (m := 1) (by decide +kernel)
theorem dX11_enough_47 : decode cX11_enough 47 = .ok (.goto (-29), 3) := dcs_167 (n := 65507) (by decide +kernel)
theorem dX11_enough_50 : decode cX11_enough 50 = .ok (.iload_n 1, 1) := dc1_27 (by decide +kernel)
theorem dX11_enough_51 : decode cX11_enough 51 = .ok (.ireturn, 1) := dc1_172 (by decide +kernel)
theorem ggX11_leftOf_X11_casesNow : GoodIn wsX11_leftOf wsX11_casesNow := gi_sub (fun w h => List.mem_cons_of_mem _ (List.mem_append_left _ (List.mem_append_right _ (List.mem_append_left _ h)))) gd_wsX11_casesNow
set_option maxRecDepth 20000 in
theorem gX11_leftOf_X11_casesNow : GoodIn wsX11_leftOf (wsV RX11 385 RX11 yX11_casesNow wsX11_casesNow) := goodIn_app (goodIn_r _ [3, 4, 5, 6] (by decide +kernel) (by decide +kernel)) ggX11_leftOf_X11_casesNow
theorem ggX11_leftOf_X11_mayAt : GoodIn wsX11_leftOf wsX11_mayAt := gi_sub (fun w h => List.mem_cons_of_mem _ (List.mem_append_left _ (List.mem_append_right _ (List.mem_append_right _ (List.mem_append_left _ h))))) gd_wsX11_mayAt
set_option maxRecDepth 20000 in
theorem gX11_leftOf_X11_mayAt : GoodIn wsX11_leftOf (wsV RX11 309 RX11 yX11_mayAt wsX11_mayAt) := goodIn_app (goodIn_r _ [7, 8, 9, 6] (by decide +kernel) (by decide +kernel)) ggX11_leftOf_X11_mayAt
theorem ggX11_leftOf_X11_bits : GoodIn wsX11_leftOf wsX11_bits := gi_sub (fun w h => List.mem_cons_of_mem _ (List.mem_append_left _ (List.mem_append_right _ (List.mem_append_right _ (List.mem_append_right _ (List.mem_append_left _ h)))))) gd_wsX11_bits
set_option maxRecDepth 20000 in
theorem gX11_leftOf_X11_bits : GoodIn wsX11_leftOf (va_wsS RX11 312 yX11_bits wsX11_bits) := goodIn_app (goodIn_of _ (by decide +kernel)) ggX11_leftOf_X11_bits
theorem ggX11_leftOf_X11_thingAt : GoodIn wsX11_leftOf wsX11_thingAt := gi_sub (fun w h => List.mem_cons_of_mem _ (List.mem_append_left _ (List.mem_append_right _ (List.mem_append_right _ (List.mem_append_right _ (List.mem_append_right _ h)))))) gd_wsX11_thingAt
set_option maxRecDepth 20000 in
theorem gX11_leftOf_X11_thingAt : GoodIn wsX11_leftOf (wsV RX11 330 RX11 yX11_thingAt wsX11_thingAt) := goodIn_app (goodIn_r _ [12, 13, 14, 6] (by decide +kernel) (by decide +kernel)) ggX11_leftOf_X11_thingAt
theorem dX11_leftOf_0 : decode cX11_leftOf 0 = .ok (.iconst 0, 1) := dc1_3 (by decide +kernel)
theorem dX11_leftOf_1 : decode cX11_leftOf 1 = .ok (.istore_n 2, 1) := dc1_61 (by decide +kernel)
theorem dX11_leftOf_2 : decode cX11_leftOf 2 = .ok (.aload_n 0, 1) := dc1_42 (by decide +kernel)
theorem dX11_leftOf_3 : decode cX11_leftOf 3 = .ok (.invokevirtual 385, 3) := dcw_182 (by decide +kernel)
theorem dX11_leftOf_6 : decode cX11_leftOf 6 = .ok (.istore_n 3, 1) := dc1_62 (by decide +kernel)
theorem dX11_leftOf_7 : decode cX11_leftOf 7 = .ok (.iconst 0, 1) := dc1_3 (by decide +kernel)
theorem dX11_leftOf_8 : decode cX11_leftOf 8 = .ok (.istore 4, 2) := dcu_54 (by decide +kernel)
theorem dX11_leftOf_10 : decode cX11_leftOf 10 = .ok (.iload 4, 2) := dcu_21 (by decide +kernel)
theorem dX11_leftOf_12 : decode cX11_leftOf 12 = .ok (.aload_n 0, 1) := dc1_42 (by decide +kernel)
theorem dX11_leftOf_13 : decode cX11_leftOf 13 = .ok (.getfield 40, 3) := dcw_180 (by decide +kernel)
theorem dX11_leftOf_16 : decode cX11_leftOf 16 = .ok (.aload_n 0, 1) := dc1_42 (by decide +kernel)
theorem dX11_leftOf_17 : decode cX11_leftOf 17 = .ok (.getfield 215, 3) := dcw_180 (by decide +kernel)
theorem dX11_leftOf_20 : decode cX11_leftOf 20 = .ok (.iaload, 1) := dc1_46 (by decide +kernel)
theorem dX11_leftOf_21 : decode cX11_leftOf 21 = .ok (.if_icmp .ge 69, 3) := dcs_162 (n := 69) (by decide +kernel)
theorem dX11_leftOf_24 : decode cX11_leftOf 24 = .ok (.aload_n 0, 1) := dc1_42 (by decide +kernel)
theorem dX11_leftOf_25 : decode cX11_leftOf 25 = .ok (.iload 4, 2) := dcu_21 (by decide +kernel)
theorem dX11_leftOf_27 : decode cX11_leftOf 27 = .ok (.invokevirtual 309, 3) := dcw_182 (by decide +kernel)
theorem dX11_leftOf_30 : decode cX11_leftOf 30 = .ok (.istore 5, 2) := dcu_54 (by decide +kernel)
theorem dX11_leftOf_32 : decode cX11_leftOf 32 = .ok (.iload_n 3, 1) := dc1_29 (by decide +kernel)
theorem dX11_leftOf_33 : decode cX11_leftOf 33 = .ok (.iload 5, 2) := dcu_21 (by decide +kernel)
theorem dX11_leftOf_35 : decode cX11_leftOf 35 = .ok (.invokestatic 312, 3) := dcw_184 (by decide +kernel)
theorem dX11_leftOf_38 : decode cX11_leftOf 38 = .ok (.idiv, 1) := dc1_108 (by decide +kernel)
theorem dX11_leftOf_39 : decode cX11_leftOf 39 = .ok (.istore_n 3, 1) := dc1_62 (by decide +kernel)
theorem dX11_leftOf_40 : decode cX11_leftOf 40 = .ok (.iload 5, 2) := dcu_21 (by decide +kernel)
theorem dX11_leftOf_42 : decode cX11_leftOf 42 = .ok (.iconst 1, 1) := dc1_4 (by decide +kernel)
theorem dX11_leftOf_43 : decode cX11_leftOf 43 = .ok (.aload_n 0, 1) := dc1_42 (by decide +kernel)
theorem dX11_leftOf_44 : decode cX11_leftOf 44 = .ok (.iload_n 1, 1) := dc1_27 (by decide +kernel)
theorem dX11_leftOf_45 : decode cX11_leftOf 45 = .ok (.iload 4, 2) := dcu_21 (by decide +kernel)
theorem dX11_leftOf_47 : decode cX11_leftOf 47 = .ok (.invokevirtual 330, 3) := dcw_182 (by decide +kernel)
theorem dX11_leftOf_50 : decode cX11_leftOf 50 = .ok (.ishl, 1) := dc1_120 (by decide +kernel)
theorem dX11_leftOf_51 : decode cX11_leftOf 51 = .ok (.iconst (-1), 1) := dc1_2 (by decide +kernel)
theorem dX11_leftOf_52 : decode cX11_leftOf 52 = .ok (.ixor, 1) := dc1_130 (by decide +kernel)
theorem dX11_leftOf_53 : decode cX11_leftOf 53 = .ok (.iand, 1) := dc1_126 (by decide +kernel)
theorem dX11_leftOf_54 : decode cX11_leftOf 54 = .ok (.invokestatic 312, 3) := dcw_184 (by decide +kernel)
theorem dX11_leftOf_57 : decode cX11_leftOf 57 = .ok (.istore 6, 2) := dcu_54 (by decide +kernel)
theorem dX11_leftOf_59 : decode cX11_leftOf 59 = .ok (.iload 6, 2) := dcu_21 (by decide +kernel)
theorem dX11_leftOf_61 : decode cX11_leftOf 61 = .ok (.iload_n 3, 1) := dc1_29 (by decide +kernel)
theorem dX11_leftOf_62 : decode cX11_leftOf 62 = .ok (.imul, 1) := dc1_104 (by decide +kernel)
theorem dX11_leftOf_63 : decode cX11_leftOf 63 = .ok (.iload_n 2, 1) := dc1_28 (by decide +kernel)
theorem dX11_leftOf_64 : decode cX11_leftOf 64 = .ok (.if_icmp .le 8, 3) := dcs_164 (n := 8) (by decide +kernel)
theorem dX11_leftOf_67 : decode cX11_leftOf 67 = .ok (.iload 6, 2) := dcu_21 (by decide +kernel)
theorem dX11_leftOf_69 : decode cX11_leftOf 69 = .ok (.iload_n 3, 1) := dc1_29 (by decide +kernel)
theorem dX11_leftOf_70 : decode cX11_leftOf 70 = .ok (.imul, 1) := dc1_104 (by decide +kernel)
theorem dX11_leftOf_71 : decode cX11_leftOf 71 = .ok (.istore_n 2, 1) := dc1_61 (by decide +kernel)
theorem dX11_leftOf_72 : decode cX11_leftOf 72 = .ok (.iload 6, 2) := dcu_21 (by decide +kernel)
theorem dX11_leftOf_74 : decode cX11_leftOf 74 = .ok (.iload 5, 2) := dcu_21 (by decide +kernel)
theorem dX11_leftOf_76 : decode cX11_leftOf 76 = .ok (.invokestatic 312, 3) := dcw_184 (by decide +kernel)
theorem dX11_leftOf_79 : decode cX11_leftOf 79 = .ok (.if_icmp .ne 5, 3) := dcs_160 (n := 5) (by decide +kernel)
theorem dX11_leftOf_82 : decode cX11_leftOf 82 = .ok (.iload_n 2, 1) := dc1_28 (by decide +kernel)
theorem dX11_leftOf_83 : decode cX11_leftOf 83 = .ok (.ireturn, 1) := dc1_172 (by decide +kernel)
theorem dX11_leftOf_84 : decode cX11_leftOf 84 = .ok (.iinc 4 1, 3) := dc_iinc (m := 1) (by decide +kernel)
theorem dX11_leftOf_87 : decode cX11_leftOf 87 = .ok (.goto (-77), 3) := dcs_167 (n := 65459) (by decide +kernel)
theorem dX11_leftOf_90 : decode cX11_leftOf 90 = .ok (.iload_n 2, 1) := dc1_28 (by decide +kernel)
theorem dX11_leftOf_91 : decode cX11_leftOf 91 = .ok (.iconst 1, 1) := dc1_4 (by decide +kernel)
theorem dX11_leftOf_92 : decode cX11_leftOf 92 = .ok (.if_icmp .le 7, 3) := dcs_164 (n := 7) (by decide +kernel)
theorem dX11_leftOf_95 : decode cX11_leftOf 95 = .ok (.iload_n 2, 1) := dc1_28 (by decide +kernel)
theorem dX11_leftOf_96 : decode cX11_leftOf 96 = .ok (.goto 4, 3) := dcs_167 (n := 4) (by decide +kernel)
theorem dX11_leftOf_99 : decode cX11_leftOf 99 = .ok (.iconst 1, 1) := dc1_4 (by decide +kernel)
theorem dX11_leftOf_100 : decode cX11_leftOf 100 = .ok (.ireturn, 1) := dc1_172 (by decide +kernel)
theorem ggX11_left_X11_isGuess : GoodIn wsX11_left wsX11_isGuess := gi_sub (fun w h => List.mem_cons_of_mem _ (List.mem_append_left _ (List.mem_append_right _ (List.mem_append_left _ h)))) gd_wsX11_isGuess
set_option maxRecDepth 20000 in
theorem gX11_left_X11_isGuess : GoodIn wsX11_left (wsV RX11 367 RX11 yX11_isGuess wsX11_isGuess) := goodIn_app (goodIn_r _ [1, 2, 3, 4] (by decide +kernel) (by decide +kernel)) ggX11_left_X11_isGuess
theorem ggX11_left_X11_copies : GoodIn wsX11_left wsX11_copies := gi_sub (fun w h => List.mem_cons_of_mem _ (List.mem_append_left _ (List.mem_append_right _ (List.mem_append_right _ (List.mem_append_left _ h))))) gd_wsX11_copies
set_option maxRecDepth 20000 in
theorem gX11_left_X11_copies : GoodIn wsX11_left (wsV RX11 352 RX11 yX11_copies wsX11_copies) := goodIn_app (goodIn_r _ [5, 6, 7, 4] (by decide +kernel) (by decide +kernel)) ggX11_left_X11_copies
theorem ggX11_left_X11_casesNow : GoodIn wsX11_left wsX11_casesNow := gi_sub (fun w h => List.mem_cons_of_mem _ (List.mem_append_left _ (List.mem_append_right _ (List.mem_append_right _ (List.mem_append_right _ (List.mem_append_left _ h)))))) gd_wsX11_casesNow
set_option maxRecDepth 20000 in
theorem gX11_left_X11_casesNow : GoodIn wsX11_left (wsV RX11 385 RX11 yX11_casesNow wsX11_casesNow) := goodIn_app (goodIn_r _ [8, 9, 10, 4] (by decide +kernel) (by decide +kernel)) ggX11_left_X11_casesNow
theorem ggX11_left_X11_leftOf : GoodIn wsX11_left wsX11_leftOf := gi_sub (fun w h => List.mem_cons_of_mem _ (List.mem_append_left _ (List.mem_append_right _ (List.mem_append_right _ (List.mem_append_right _ (List.mem_append_right _ h)))))) gd_wsX11_leftOf
set_option maxRecDepth 20000 in
theorem gX11_left_X11_leftOf : GoodIn wsX11_left (wsV RX11 401 RX11 yX11_leftOf wsX11_leftOf) := goodIn_app (goodIn_r _ [11, 12, 13, 4] (by decide +kernel) (by decide +kernel)) ggX11_left_X11_leftOf
theorem dX11_left_0 : decode cX11_left 0 = .ok (.aload_n 0, 1) := dc1_42 (by decide +kernel)
theorem dX11_left_1 : decode cX11_left 1 = .ok (.iload_n 1, 1) := dc1_27 (by decide +kernel)
theorem dX11_left_2 : decode cX11_left 2 = .ok (.invokevirtual 367, 3) := dcw_182 (by decide +kernel)
theorem dX11_left_5 : decode cX11_left 5 = .ok (.ifCond .ne 5, 3) := dcs_154 (n := 5) (by decide +kernel)
theorem dX11_left_8 : decode cX11_left 8 = .ok (.iconst (-1), 1) := dc1_2 (by decide +kernel)
theorem dX11_left_9 : decode cX11_left 9 = .ok (.ireturn, 1) := dc1_172 (by decide +kernel)
theorem dX11_left_10 : decode cX11_left 10 = .ok (.aload_n 0, 1) := dc1_42 (by decide +kernel)
theorem dX11_left_11 : decode cX11_left 11 = .ok (.invokevirtual 352, 3) := dcw_182 (by decide +kernel)
theorem dX11_left_14 : decode cX11_left 14 = .ok (.aload_n 0, 1) := dc1_42 (by decide +kernel)
theorem dX11_left_15 : decode cX11_left 15 = .ok (.invokevirtual 385, 3) := dcw_182 (by decide +kernel)
theorem dX11_left_18 : decode cX11_left 18 = .ok (.ifCond .ne 8, 3) := dcs_154 (n := 8) (by decide +kernel)
theorem dX11_left_21 : decode cX11_left 21 = .ok (.bipush (-2), 2) := dcb_16 (n := 254) (by decide +kernel)
theorem dX11_left_23 : decode cX11_left 23 = .ok (.goto 8, 3) := dcs_167 (n := 8) (by decide +kernel)
theorem dX11_left_26 : decode cX11_left 26 = .ok (.aload_n 0, 1) := dc1_42 (by decide +kernel)
theorem dX11_left_27 : decode cX11_left 27 = .ok (.iload_n 1, 1) := dc1_27 (by decide +kernel)
theorem dX11_left_28 : decode cX11_left 28 = .ok (.invokevirtual 401, 3) := dcw_182 (by decide +kernel)
theorem dX11_left_31 : decode cX11_left 31 = .ok (.ireturn, 1) := dc1_172 (by decide +kernel)
theorem ggX11_wisest_X11_in : GoodIn wsX11_wisest wsX11_in := gi_sub (fun w h => List.mem_cons_of_mem _ (List.mem_append_left _ (List.mem_append_right _ (List.mem_append_left _ h)))) gd_wsX11_in
set_option maxRecDepth 20000 in
theorem gX11_wisest_X11_in : GoodIn wsX11_wisest (va_wsS RX11 281 yX11_in wsX11_in) := goodIn_app (goodIn_of _ (by decide +kernel)) ggX11_wisest_X11_in
theorem ggX11_wisest_X11_copies : GoodIn wsX11_wisest wsX11_copies := gi_sub (fun w h => List.mem_cons_of_mem _ (List.mem_append_left _ (List.mem_append_right _ (List.mem_append_right _ (List.mem_append_left _ h))))) gd_wsX11_copies
set_option maxRecDepth 20000 in
theorem gX11_wisest_X11_copies : GoodIn wsX11_wisest (wsV RX11 352 RX11 yX11_copies wsX11_copies) := goodIn_app (goodIn_r _ [4, 5, 6, 3] (by decide +kernel) (by decide +kernel)) ggX11_wisest_X11_copies
theorem ggX11_wisest_X11_casesNow : GoodIn wsX11_wisest wsX11_casesNow := gi_sub (fun w h => List.mem_cons_of_mem _ (List.mem_append_left _ (List.mem_append_right _ (List.mem_append_right _ (List.mem_append_right _ (List.mem_append_left _ h)))))) gd_wsX11_casesNow
set_option maxRecDepth 20000 in
theorem gX11_wisest_X11_casesNow : GoodIn wsX11_wisest (wsV RX11 385 RX11 yX11_casesNow wsX11_casesNow) := goodIn_app (goodIn_r _ [7, 8, 9, 3] (by decide +kernel) (by decide +kernel)) ggX11_wisest_X11_casesNow
theorem ggX11_wisest_X11_leftOf : GoodIn wsX11_wisest wsX11_leftOf := gi_sub (fun w h => List.mem_cons_of_mem _ (List.mem_append_left _ (List.mem_append_right _ (List.mem_append_right _ (List.mem_append_right _ (List.mem_append_right _ (List.mem_append_left _ h))))))) gd_wsX11_leftOf
set_option maxRecDepth 20000 in
theorem gX11_wisest_X11_leftOf : GoodIn wsX11_wisest (wsV RX11 401 RX11 yX11_leftOf wsX11_leftOf) := goodIn_app (goodIn_r _ [10, 11, 12, 3] (by decide +kernel) (by decide +kernel)) ggX11_wisest_X11_leftOf
theorem ggX11_wisest_X11_guesses : GoodIn wsX11_wisest wsX11_guesses := gi_sub (fun w h => List.mem_cons_of_mem _ (List.mem_append_left _ (List.mem_append_right _ (List.mem_append_right _ (List.mem_append_right _ (List.mem_append_right _ (List.mem_append_right _ h))))))) gd_wsX11_guesses
set_option maxRecDepth 20000 in
theorem gX11_wisest_X11_guesses : GoodIn wsX11_wisest (wsV RX11 285 RX11 yX11_guesses wsX11_guesses) := goodIn_app (goodIn_r _ [13, 14, 15, 3] (by decide +kernel) (by decide +kernel)) ggX11_wisest_X11_guesses
theorem dX11_wisest_0 : decode cX11_wisest 0 = .ok (.iload_n 1, 1) := dc1_27 (by decide +kernel)
theorem dX11_wisest_1 : decode cX11_wisest 1 = .ok (.iconst 0, 1) := dc1_3 (by decide +kernel)
theorem dX11_wisest_2 : decode cX11_wisest 2 = .ok (.iconst 1, 1) := dc1_4 (by decide +kernel)
theorem dX11_wisest_3 : decode cX11_wisest 3 = .ok (.invokestatic 281, 3) := dcw_184 (by decide +kernel)
theorem dX11_wisest_6 : decode cX11_wisest 6 = .ok (.ifCond .ne 5, 3) := dcs_154 (n := 5) (by decide +kernel)
theorem dX11_wisest_9 : decode cX11_wisest 9 = .ok (.iconst (-1), 1) := dc1_2 (by decide +kernel)
theorem dX11_wisest_10 : decode cX11_wisest 10 = .ok (.ireturn, 1) := dc1_172 (by decide +kernel)
theorem dX11_wisest_11 : decode cX11_wisest 11 = .ok (.aload_n 0, 1) := dc1_42 (by decide +kernel)
theorem dX11_wisest_12 : decode cX11_wisest 12 = .ok (.invokevirtual 352, 3) := dcw_182 (by decide +kernel)
theorem dX11_wisest_15 : decode cX11_wisest 15 = .ok (.aload_n 0, 1) := dc1_42 (by decide +kernel)
theorem dX11_wisest_16 : decode cX11_wisest 16 = .ok (.invokevirtual 385, 3) := dcw_182 (by decide +kernel)
theorem dX11_wisest_19 : decode cX11_wisest 19 = .ok (.ifCond .ne 6, 3) := dcs_154 (n := 6) (by decide +kernel)
theorem dX11_wisest_22 : decode cX11_wisest 22 = .ok (.bipush (-2), 2) := dcb_16 (n := 254) (by decide +kernel)
theorem dX11_wisest_24 : decode cX11_wisest 24 = .ok (.ireturn, 1) := dc1_172 (by decide +kernel)
theorem dX11_wisest_25 : decode cX11_wisest 25 = .ok (.iconst 0, 1) := dc1_3 (by decide +kernel)
theorem dX11_wisest_26 : decode cX11_wisest 26 = .ok (.istore_n 2, 1) := dc1_61 (by decide +kernel)
theorem dX11_wisest_27 : decode cX11_wisest 27 = .ok (.aload_n 0, 1) := dc1_42 (by decide +kernel)
theorem dX11_wisest_28 : decode cX11_wisest 28 = .ok (.iconst 0, 1) := dc1_3 (by decide +kernel)
theorem dX11_wisest_29 : decode cX11_wisest 29 = .ok (.invokevirtual 401, 3) := dcw_182 (by decide +kernel)
theorem dX11_wisest_32 : decode cX11_wisest 32 = .ok (.istore_n 3, 1) := dc1_62 (by decide +kernel)
theorem dX11_wisest_33 : decode cX11_wisest 33 = .ok (.iconst 1, 1) := dc1_4 (by decide +kernel)
theorem dX11_wisest_34 : decode cX11_wisest 34 = .ok (.istore 4, 2) := dcu_54 (by decide +kernel)
theorem dX11_wisest_36 : decode cX11_wisest 36 = .ok (.iload 4, 2) := dcu_21 (by decide +kernel)
theorem dX11_wisest_38 : decode cX11_wisest 38 = .ok (.aload_n 0, 1) := dc1_42 (by decide +kernel)
theorem dX11_wisest_39 : decode cX11_wisest 39 = .ok (.invokevirtual 285, 3) := dcw_182 (by decide +kernel)
theorem dX11_wisest_42 : decode cX11_wisest 42 = .ok (.if_icmp .ge 32, 3) := dcs_162 (n := 32) (by decide +kernel)
theorem dX11_wisest_45 : decode cX11_wisest 45 = .ok (.aload_n 0, 1) := dc1_42 (by decide +kernel)
theorem dX11_wisest_46 : decode cX11_wisest 46 = .ok (.iload 4, 2) := dcu_21 (by decide +kernel)
theorem dX11_wisest_48 : decode cX11_wisest 48 = .ok (.invokevirtual 401, 3) := dcw_182 (by decide +kernel)
theorem dX11_wisest_51 : decode cX11_wisest 51 = .ok (.istore 5, 2) := dcu_54 (by decide +kernel)
theorem dX11_wisest_53 : decode cX11_wisest 53 = .ok (.iload 5, 2) := dcu_21 (by decide +kernel)
theorem dX11_wisest_55 : decode cX11_wisest 55 = .ok (.iload_n 3, 1) := dc1_29 (by decide +kernel)
theorem dX11_wisest_56 : decode cX11_wisest 56 = .ok (.if_icmp .lt 6, 3) := dcs_161 (n := 6) (by decide +kernel)
theorem dX11_wisest_59 : decode cX11_wisest 59 = .ok (.goto 9, 3) := dcs_167 (n := 9) (by decide +kernel)
theorem dX11_wisest_62 : decode cX11_wisest 62 = .ok (.iload 4, 2) := dcu_21 (by decide +kernel)
theorem dX11_wisest_64 : decode cX11_wisest 64 = .ok (.istore_n 2, 1) := dc1_61 (by decide +kernel)
theorem dX11_wisest_65 : decode cX11_wisest 65 = .ok (.iload 5, 2) := dcu_21 (by decide +kernel)
theorem dX11_wisest_67 : decode cX11_wisest 67 = .ok (.istore_n 3, 1) := dc1_62 (by decide +kernel)
theorem dX11_wisest_68 : decode cX11_wisest 68 = .ok (.iinc 4 1, 3) := dc_iinc (m := 1) (by decide +kernel)
theorem dX11_wisest_71 : decode cX11_wisest 71 = .ok (.goto (-35), 3) := dcs_167 (n := 65501) (by decide +kernel)
theorem dX11_wisest_74 : decode cX11_wisest 74 = .ok (.iload_n 1, 1) := dc1_27 (by decide +kernel)
theorem dX11_wisest_75 : decode cX11_wisest 75 = .ok (.ifCond .ne 7, 3) := dcs_154 (n := 7) (by decide +kernel)
theorem dX11_wisest_78 : decode cX11_wisest 78 = .ok (.iload_n 2, 1) := dc1_28 (by decide +kernel)
theorem dX11_wisest_79 : decode cX11_wisest 79 = .ok (.goto 4, 3) := dcs_167 (n := 4) (by decide +kernel)
theorem dX11_wisest_82 : decode cX11_wisest 82 = .ok (.iload_n 3, 1) := dc1_29 (by decide +kernel)
theorem dX11_wisest_83 : decode cX11_wisest 83 = .ok (.ireturn, 1) := dc1_172 (by decide +kernel)
theorem LX11_bestFor_104 : Cond.fieldLink RX11 104 "GuessFerryModel" "sixes" "[I" ∈ wsX11_bestFor := by decide +kernel
theorem LX11_bestFor_215 : Cond.fieldLink RX11 215 "GuessFerryModel" "live" "I" ∈ wsX11_bestFor := by decide +kernel
theorem LX11_bestFor_40 : Cond.fieldLink RX11 40 "GuessFerryModel" "waves" "[I" ∈ wsX11_bestFor := by decide +kernel
theorem inX11_bestFor_X11 : ∀ w ∈ u_ws RX11 TX11 58, w ∈ wsX11_bestFor := by decide +kernel
set_option maxHeartbeats 4000000 in
set_option maxRecDepth 100000 in
theorem br_bestFor_83 {l : Launch} {dC : Nat → ClassId} {dI : Nat → Nat → Nat} {cB cI cJ cZ cS : ClassId} {h : Nat} {a : Nat → Nat} {as : List Value} {r : Int32} {s' : RS} {k4 : RS → Int32 → Int32 → Int32 → Option (Int32 × RS)} {k24 : RS → Int32 → Int32 → Int32 → Int32 → Int32 → Option (Int32 × RS)} (hk4 : ∀ (s : RS) (x1 : Int32) (x2 : Int32) (x3 : Int32), k4 s x1 x2 x3 = some (r, s') → BlkI l yX11_bestFor wsX11_bestFor ({ frames := 5, cells := 0, slots := 0, locals := 112 }) cX11_bestFor 6 (some .int) (dC, dI) (tysA cB cI cJ cZ cS) as 4 (mwS cB cI cJ cZ h a s) [(0, .ref h), (1, .int x1), (2, .int x2), (3, .int x3)] [] (fun x u => x = r ∧ u = (mwS cB cI cJ cZ h a s'))) (hk24 : ∀ (s : RS) (x1 : Int32) (x2 : Int32) (x3 : Int32) (x4 : Int32) (x5 : Int32), k24 s x1 x2 x3 x4 x5 = some (r, s') → BlkI l yX11_bestFor wsX11_bestFor ({ frames := 5, cells := 0, slots := 0, locals := 112 }) cX11_bestFor 6 (some .int) (dC, dI) (tysA cB cI cJ cZ cS) as 24 (mwS cB cI cJ cZ h a s) [(0, .ref h), (1, .int x1), (2, .int x2), (3, .int x3), (4, .int x4), (5, .int x5)] [] (fun x u => x = r ∧ u = (mwS cB cI cJ cZ h a s'))) (s : RS) (x1 : Int32) (x2 : Int32) (x3 : Int32) (x4 : Int32) (x5 : Int32) (hB : r_bestFor_83 k4 k24 s x1 x2 x3 x4 x5 = some (r, s')) : BlkI l yX11_bestFor wsX11_bestFor ({ frames := 5, cells := 0, slots := 0, locals := 112 }) cX11_bestFor 6 (some .int) (dC, dI) (tysA cB cI cJ cZ cS) as 83 (mwS cB cI cJ cZ h a s) [(0, .ref h), (1, .int x1), (2, .int x2), (3, .int x3), (4, .int x4), (5, .int x5)] [] (fun x u => x = r ∧ u = (mwS cB cI cJ cZ h a s')) := by
  intro p e s0 m below meth c A E H locs ls hP hD hS hl
  obtain ⟨C, hr, hlocks, hA, hK, hN⟩ := id E
  obtain ⟨hx, hb, hml, hown, hts⟩ := id C
  unfold r_bestFor_83 at hB
  refine lv_iinc (v := (x5 + 1)) (lv' := [(5, .int (x5 + 1)), (0, .ref h), (1, .int x1), (2, .int x2), (3, .int x3), (4, .int x4)]) hx hb dX11_bestFor_83 hl (k := 5) rfl (rfl) (by decide) rfl (fun ls hl => ?_)
  refine lv_goto (tgt := 24) hx hb dX11_bestFor_86 (by decide) ?_
  exact hk24 _ _ _ _ _ _ hB p e s0 m below meth c A E H locs ls hP hD hS (lv_sub hl [1, 2, 3, 4, 5, 0] rfl)
set_option maxHeartbeats 4000000 in
set_option maxRecDepth 100000 in
theorem br_bestFor_79 {l : Launch} {dC : Nat → ClassId} {dI : Nat → Nat → Nat} {cB cI cJ cZ cS : ClassId} {h : Nat} {a : Nat → Nat} {as : List Value} {r : Int32} {s' : RS} {k4 : RS → Int32 → Int32 → Int32 → Option (Int32 × RS)} {k24 : RS → Int32 → Int32 → Int32 → Int32 → Int32 → Option (Int32 × RS)} (hk4 : ∀ (s : RS) (x1 : Int32) (x2 : Int32) (x3 : Int32), k4 s x1 x2 x3 = some (r, s') → BlkI l yX11_bestFor wsX11_bestFor ({ frames := 5, cells := 0, slots := 0, locals := 112 }) cX11_bestFor 6 (some .int) (dC, dI) (tysA cB cI cJ cZ cS) as 4 (mwS cB cI cJ cZ h a s) [(0, .ref h), (1, .int x1), (2, .int x2), (3, .int x3)] [] (fun x u => x = r ∧ u = (mwS cB cI cJ cZ h a s'))) (hk24 : ∀ (s : RS) (x1 : Int32) (x2 : Int32) (x3 : Int32) (x4 : Int32) (x5 : Int32), k24 s x1 x2 x3 x4 x5 = some (r, s') → BlkI l yX11_bestFor wsX11_bestFor ({ frames := 5, cells := 0, slots := 0, locals := 112 }) cX11_bestFor 6 (some .int) (dC, dI) (tysA cB cI cJ cZ cS) as 24 (mwS cB cI cJ cZ h a s) [(0, .ref h), (1, .int x1), (2, .int x2), (3, .int x3), (4, .int x4), (5, .int x5)] [] (fun x u => x = r ∧ u = (mwS cB cI cJ cZ h a s'))) (s : RS) (x1 : Int32) (x2 : Int32) (x3 : Int32) (x5 : Int32) (hB : r_bestFor_79 k4 k24 s x1 x2 x3 x5 = some (r, s')) : BlkI l yX11_bestFor wsX11_bestFor ({ frames := 5, cells := 0, slots := 0, locals := 112 }) cX11_bestFor 6 (some .int) (dC, dI) (tysA cB cI cJ cZ cS) as 79 (mwS cB cI cJ cZ h a s) [(0, .ref h), (1, .int x1), (2, .int x2), (3, .int x3), (5, .int x5)] [] (fun x u => x = r ∧ u = (mwS cB cI cJ cZ h a s')) := by
  intro p e s0 m below meth c A E H locs ls hP hD hS hl
  obtain ⟨C, hr, hlocks, hA, hK, hN⟩ := id E
  obtain ⟨hx, hb, hml, hown, hts⟩ := id C
  unfold r_bestFor_79 at hB
  refine lv_iload hx hb dX11_bestFor_79 (lv_at hl 4 rfl) ?_
  refine lv_istore (lv' := [(4, .int x5), (0, .ref h), (1, .int x1), (2, .int x2), (3, .int x3), (5, .int x5)]) hx hb dX11_bestFor_81 hl (by decide) rfl (fun ls hl => ?_)
  exact br_bestFor_83 (hk4) (hk24) _ _ _ _ _ _ hB p e s0 m below meth c A E H locs ls hP hD hS (lv_sub hl [1, 2, 3, 4, 0, 5] rfl)
set_option maxHeartbeats 4000000 in
set_option maxRecDepth 100000 in
theorem br_bestFor_57 {l : Launch} {dC : Nat → ClassId} {dI : Nat → Nat → Nat} {cB cI cJ cZ cS : ClassId} {h : Nat} {a : Nat → Nat} {as : List Value} {r : Int32} {s' : RS} {k4 : RS → Int32 → Int32 → Int32 → Option (Int32 × RS)} {k24 : RS → Int32 → Int32 → Int32 → Int32 → Int32 → Option (Int32 × RS)} (hk4 : ∀ (s : RS) (x1 : Int32) (x2 : Int32) (x3 : Int32), k4 s x1 x2 x3 = some (r, s') → BlkI l yX11_bestFor wsX11_bestFor ({ frames := 5, cells := 0, slots := 0, locals := 112 }) cX11_bestFor 6 (some .int) (dC, dI) (tysA cB cI cJ cZ cS) as 4 (mwS cB cI cJ cZ h a s) [(0, .ref h), (1, .int x1), (2, .int x2), (3, .int x3)] [] (fun x u => x = r ∧ u = (mwS cB cI cJ cZ h a s'))) (hk24 : ∀ (s : RS) (x1 : Int32) (x2 : Int32) (x3 : Int32) (x4 : Int32) (x5 : Int32), k24 s x1 x2 x3 x4 x5 = some (r, s') → BlkI l yX11_bestFor wsX11_bestFor ({ frames := 5, cells := 0, slots := 0, locals := 112 }) cX11_bestFor 6 (some .int) (dC, dI) (tysA cB cI cJ cZ cS) as 24 (mwS cB cI cJ cZ h a s) [(0, .ref h), (1, .int x1), (2, .int x2), (3, .int x3), (4, .int x4), (5, .int x5)] [] (fun x u => x = r ∧ u = (mwS cB cI cJ cZ h a s'))) (s : RS) (x1 : Int32) (x2 : Int32) (x3 : Int32) (x4 : Int32) (x5 : Int32) (hB : r_bestFor_57 k4 k24 s x1 x2 x3 x4 x5 = some (r, s')) : BlkI l yX11_bestFor wsX11_bestFor ({ frames := 5, cells := 0, slots := 0, locals := 112 }) cX11_bestFor 6 (some .int) (dC, dI) (tysA cB cI cJ cZ cS) as 57 (mwS cB cI cJ cZ h a s) [(0, .ref h), (1, .int x1), (2, .int x2), (3, .int x3), (4, .int x4), (5, .int x5)] [] (fun x u => x = r ∧ u = (mwS cB cI cJ cZ h a s')) := by
  intro p e s0 m below meth c A E H locs ls hP hD hS hl
  obtain ⟨C, hr, hlocks, hA, hK, hN⟩ := id E
  obtain ⟨hx, hb, hml, hown, hts⟩ := id C
  unfold r_bestFor_57 at hB
  refine lv_iload hx hb dX11_bestFor_57 (lv_at hl 4 rfl) ?_
  refine lv_if_lt (tgt := 79) hx hb dX11_bestFor_59 (by decide) (fun c1 => ?_) (fun c1 => ?_)
  · have hB := if_p hB c1
    exact br_bestFor_79 (hk4) (hk24) _ _ _ _ _ hB p e s0 m below meth c A E H locs ls hP hD hS (lv_sub hl [0, 1, 2, 3, 5] rfl)
  · have hB := if_n hB c1
    refine lv_aload_n hx hb dX11_bestFor_62 rfl (lv_at hl 0 rfl) ?_
    refine lv_iload_n hx hb dX11_bestFor_63 rfl (lv_at hl 3 rfl) ?_
    refine lv_iload hx hb dX11_bestFor_64 (lv_at hl 5 rfl) ?_
    obtain ⟨q_, s2, hc, hB⟩ := bindI_inv hB
    refine q_goiF (va_runV (As := [.int x3, .int x5]) (rest := []) C (cr_oddsAt hc _) (cwV 2 hts gX11_bestFor_X11_oddsAt rfl rfl rfl (by decide +kernel) ⟨Nat.le_of_ble_eq_true rfl, Nat.le_of_ble_eq_true rfl⟩) (q_preV hK hP (ci := 11) (q0 := 0) rfl rfl rfl (q_preF hN hK hP hD)) rfl rfl hl.1 rfl (lv_room (Nat.le_of_ble_eq_true rfl)) dX11_bestFor_66 ⟨Nat.le_of_ble_eq_true rfl, Nat.le_of_ble_eq_true rfl⟩) hD hS hA (fun r3 w1 H locs hw hP hD hS => ?_)
    obtain ⟨hq_, hw⟩ := hw; subst hw; subst hq_
    refine lv_aload_n hx hb dX11_bestFor_69 rfl (lv_at hl 0 rfl) ?_
    refine lv_iload_n hx hb dX11_bestFor_70 rfl (lv_at hl 3 rfl) ?_
    refine lv_iload hx hb dX11_bestFor_71 (lv_at hl 4 rfl) ?_
    obtain ⟨q_, s4, hc, hB⟩ := bindI_inv hB
    refine q_goiF (va_runV (As := [.int x3, .int x4]) (rest := [.int r3]) C (cr_oddsAt hc _) (cwV 2 hts gX11_bestFor_X11_oddsAt rfl rfl rfl (by decide +kernel) ⟨Nat.le_of_ble_eq_true rfl, Nat.le_of_ble_eq_true rfl⟩) (q_preV hK hP (ci := 11) (q0 := 0) rfl rfl rfl (q_preF hN hK hP hD)) rfl rfl hl.1 rfl (lv_room (Nat.le_of_ble_eq_true rfl)) dX11_bestFor_73 ⟨Nat.le_of_ble_eq_true rfl, Nat.le_of_ble_eq_true rfl⟩) hD hS hA (fun r5 w1 H locs hw hP hD hS => ?_)
    obtain ⟨hq_, hw⟩ := hw; subst hw; subst hq_
    refine lv_icmp_le (tgt := 83) hx hb dX11_bestFor_76 (by decide) (fun c6 => ?_) (fun c6 => ?_)
    · have hB := if_p hB c6
      exact br_bestFor_83 (hk4) (hk24) _ _ _ _ _ _ hB p e s0 m below meth c A E H locs ls hP hD hS (lv_sub hl [0, 1, 2, 3, 4, 5] rfl)
    · have hB := if_n hB c6
      exact br_bestFor_79 (hk4) (hk24) _ _ _ _ _ hB p e s0 m below meth c A E H locs ls hP hD hS (lv_sub hl [0, 1, 2, 3, 5] rfl)
set_option maxHeartbeats 4000000 in
set_option maxRecDepth 100000 in
theorem br_bestFor_24 {l : Launch} {dC : Nat → ClassId} {dI : Nat → Nat → Nat} {cB cI cJ cZ cS : ClassId} {h : Nat} {a : Nat → Nat} {as : List Value} {r : Int32} {s' : RS} {k4 : RS → Int32 → Int32 → Int32 → Option (Int32 × RS)} {k24 : RS → Int32 → Int32 → Int32 → Int32 → Int32 → Option (Int32 × RS)} (hk4 : ∀ (s : RS) (x1 : Int32) (x2 : Int32) (x3 : Int32), k4 s x1 x2 x3 = some (r, s') → BlkI l yX11_bestFor wsX11_bestFor ({ frames := 5, cells := 0, slots := 0, locals := 112 }) cX11_bestFor 6 (some .int) (dC, dI) (tysA cB cI cJ cZ cS) as 4 (mwS cB cI cJ cZ h a s) [(0, .ref h), (1, .int x1), (2, .int x2), (3, .int x3)] [] (fun x u => x = r ∧ u = (mwS cB cI cJ cZ h a s'))) (hk24 : ∀ (s : RS) (x1 : Int32) (x2 : Int32) (x3 : Int32) (x4 : Int32) (x5 : Int32), k24 s x1 x2 x3 x4 x5 = some (r, s') → BlkI l yX11_bestFor wsX11_bestFor ({ frames := 5, cells := 0, slots := 0, locals := 112 }) cX11_bestFor 6 (some .int) (dC, dI) (tysA cB cI cJ cZ cS) as 24 (mwS cB cI cJ cZ h a s) [(0, .ref h), (1, .int x1), (2, .int x2), (3, .int x3), (4, .int x4), (5, .int x5)] [] (fun x u => x = r ∧ u = (mwS cB cI cJ cZ h a s'))) (s : RS) (x1 : Int32) (x2 : Int32) (x3 : Int32) (x4 : Int32) (x5 : Int32) (hB : r_bestFor_24 k4 k24 s x1 x2 x3 x4 x5 = some (r, s')) : BlkI l yX11_bestFor wsX11_bestFor ({ frames := 5, cells := 0, slots := 0, locals := 112 }) cX11_bestFor 6 (some .int) (dC, dI) (tysA cB cI cJ cZ cS) as 24 (mwS cB cI cJ cZ h a s) [(0, .ref h), (1, .int x1), (2, .int x2), (3, .int x3), (4, .int x4), (5, .int x5)] [] (fun x u => x = r ∧ u = (mwS cB cI cJ cZ h a s')) := by
  intro p e s0 m below meth c A E H locs ls hP hD hS hl
  obtain ⟨C, hr, hlocks, hA, hK, hN⟩ := id E
  obtain ⟨hx, hb, hml, hown, hts⟩ := id C
  unfold r_bestFor_24 at hB
  refine lv_iload hx hb dX11_bestFor_24 (lv_at hl 5 rfl) ?_
  refine lv_bipush (v := 6) hx hb dX11_bestFor_26 (by decide) ?_
  refine lv_icmp_ge (tgt := 89) hx hb dX11_bestFor_28 (by decide) (fun c1 => ?_) (fun c1 => ?_)
  · have hB := if_p hB c1
    refine lv_iload hx hb dX11_bestFor_89 (lv_at hl 4 rfl) ?_
    refine lv_if_ge (tgt := 97) hx hb dX11_bestFor_91 (by decide) (fun c2 => ?_) (fun c2 => ?_)
    · have hB := if_p hB c2
      refine lv_iload_n hx hb dX11_bestFor_97 rfl (lv_at hl 2 rfl) ?_
      refine lv_aload_n hx hb dX11_bestFor_98 rfl (lv_at hl 0 rfl) ?_
      refine q_get (v := .ref (a 46)) C inX11_bestFor_X11 hK hP 0 rfl rfl 46 (by decide) rfl LX11_bestFor_104 rfl dX11_bestFor_99 ?_
      refine lv_iload_n hx hb dX11_bestFor_102 rfl (lv_at hl 3 rfl) ?_
      obtain ⟨g3, hB⟩ := guard_inv hB
      refine q_iald (x := (s.f 46 (Int32.toNatClampNeg x3))) C hK hP 29 1 rfl rfl (vpb_in g3) dX11_bestFor_103 rfl ?_
      refine lv_iload hx hb dX11_bestFor_104 (lv_at hl 4 rfl) ?_
      refine lv_imul hx hb dX11_bestFor_106 ?_
      refine lv_iadd hx hb dX11_bestFor_107 ?_
      refine lv_istore_n (lv' := [(2, .int (x2 + ((s.f 46 (Int32.toNatClampNeg x3)) * x4))), (0, .ref h), (1, .int x1), (3, .int x3), (4, .int x4), (5, .int x5)]) hx hb dX11_bestFor_108 rfl hl (by decide) rfl (fun ls hl => ?_)
      refine lv_iinc (v := (x3 + 1)) (lv' := [(3, .int (x3 + 1)), (2, .int (x2 + ((s.f 46 (Int32.toNatClampNeg x3)) * x4))), (0, .ref h), (1, .int x1), (4, .int x4), (5, .int x5)]) hx hb dX11_bestFor_109 hl (k := 3) rfl (rfl) (by decide) rfl (fun ls hl => ?_)
      refine lv_goto (tgt := 4) hx hb dX11_bestFor_112 (by decide) ?_
      exact hk4 _ _ _ _ hB p e s0 m below meth c A E H locs ls hP hD hS (lv_sub hl [2, 3, 1, 0] rfl)
    · have hB := if_n hB c2
      refine lv_bipush (v := (-2)) hx hb dX11_bestFor_94 (by decide) ?_
      exact q_iret C hr hlocks hK hP hD hS (Nat.le_of_ble_eq_true rfl) (Nat.le_of_ble_eq_true rfl) dX11_bestFor_96 (by cases hB; exact ⟨rfl, rfl⟩)
  · have hB := if_n hB c1
    refine lv_aload_n hx hb dX11_bestFor_31 rfl (lv_at hl 0 rfl) ?_
    refine lv_iload_n hx hb dX11_bestFor_32 rfl (lv_at hl 3 rfl) ?_
    refine lv_iload hx hb dX11_bestFor_33 (lv_at hl 5 rfl) ?_
    obtain ⟨q_, s4, hc, hB⟩ := bindI_inv hB
    refine q_goiF (va_runV (As := [.int x3, .int x5]) (rest := []) C (cr_mayBe hc _) (cwV 2 hts gX11_bestFor_X11_mayBe rfl rfl rfl (by decide +kernel) ⟨Nat.le_of_ble_eq_true rfl, Nat.le_of_ble_eq_true rfl⟩) (q_preV hK hP (ci := 11) (q0 := 0) rfl rfl rfl (q_preF hN hK hP hD)) rfl rfl hl.1 rfl (lv_room (Nat.le_of_ble_eq_true rfl)) dX11_bestFor_35 ⟨Nat.le_of_ble_eq_true rfl, Nat.le_of_ble_eq_true rfl⟩) hD hS hA (fun r5 w1 H locs hw hP hD hS => ?_)
    obtain ⟨hq_, hw⟩ := hw; subst hw; subst hq_
    refine lv_if_eq (tgt := 83) hx hb dX11_bestFor_38 (by decide) (fun c6 => ?_) (fun c6 => ?_)
    · have hB := if_p hB c6
      exact br_bestFor_83 (hk4) (hk24) _ _ _ _ _ _ hB p e s0 m below meth c A E H locs ls hP hD hS (lv_sub hl [0, 1, 2, 3, 4, 5] rfl)
    · have hB := if_n hB c6
      refine lv_iload_n hx hb dX11_bestFor_41 rfl (lv_at hl 1 rfl) ?_
      refine lv_iconst (v := (-1)) hx hb dX11_bestFor_42 (by decide) ?_
      refine lv_icmp_eq (tgt := 57) hx hb dX11_bestFor_43 (by decide) (fun c7 => ?_) (fun c7 => ?_)
      · have hB := if_p hB c7
        exact br_bestFor_57 (hk4) (hk24) _ _ _ _ _ _ hB p e s0 m below meth c A E H locs ls hP hD hS (lv_sub hl [0, 1, 2, 3, 4, 5] rfl)
      · have hB := if_n hB c7
        refine lv_aload_n hx hb dX11_bestFor_46 rfl (lv_at hl 0 rfl) ?_
        refine lv_iload_n hx hb dX11_bestFor_47 rfl (lv_at hl 1 rfl) ?_
        refine lv_iload_n hx hb dX11_bestFor_48 rfl (lv_at hl 3 rfl) ?_
        refine lv_iload hx hb dX11_bestFor_49 (lv_at hl 5 rfl) ?_
        obtain ⟨q_, s8, hc, hB⟩ := bindI_inv hB
        refine q_goiF (va_runV (As := [.int x1, .int x3, .int x5]) (rest := []) C (cr_doesBear hc _) (cwV 3 hts gX11_bestFor_X11_doesBear rfl rfl rfl (by decide +kernel) ⟨Nat.le_of_ble_eq_true rfl, Nat.le_of_ble_eq_true rfl⟩) (q_preV hK hP (ci := 11) (q0 := 0) rfl rfl rfl (q_preF hN hK hP hD)) rfl rfl hl.1 rfl (lv_room (Nat.le_of_ble_eq_true rfl)) dX11_bestFor_51 ⟨Nat.le_of_ble_eq_true rfl, Nat.le_of_ble_eq_true rfl⟩) hD hS hA (fun r9 w1 H locs hw hP hD hS => ?_)
        obtain ⟨hq_, hw⟩ := hw; subst hw; subst hq_
        refine lv_if_eq (tgt := 83) hx hb dX11_bestFor_54 (by decide) (fun c10 => ?_) (fun c10 => ?_)
        · have hB := if_p hB c10
          exact br_bestFor_83 (hk4) (hk24) _ _ _ _ _ _ hB p e s0 m below meth c A E H locs ls hP hD hS (lv_sub hl [0, 1, 2, 3, 4, 5] rfl)
        · have hB := if_n hB c10
          exact br_bestFor_57 (hk4) (hk24) _ _ _ _ _ _ hB p e s0 m below meth c A E H locs ls hP hD hS (lv_sub hl [0, 1, 2, 3, 4, 5] rfl)
theorem br_bestFor_24L {l : Launch} {dC : Nat → ClassId} {dI : Nat → Nat → Nat} {cB cI cJ cZ cS : ClassId} {h : Nat} {a : Nat → Nat} {as : List Value} {r : Int32} {s' : RS} {k4 : RS → Int32 → Int32 → Int32 → Option (Int32 × RS)} (hk4 : ∀ (s : RS) (x1 : Int32) (x2 : Int32) (x3 : Int32), k4 s x1 x2 x3 = some (r, s') → BlkI l yX11_bestFor wsX11_bestFor ({ frames := 5, cells := 0, slots := 0, locals := 112 }) cX11_bestFor 6 (some .int) (dC, dI) (tysA cB cI cJ cZ cS) as 4 (mwS cB cI cJ cZ h a s) [(0, .ref h), (1, .int x1), (2, .int x2), (3, .int x3)] [] (fun x u => x = r ∧ u = (mwS cB cI cJ cZ h a s'))) : ∀ (n : Nat) (s : RS) (x1 : Int32) (x2 : Int32) (x3 : Int32) (x4 : Int32) (x5 : Int32), r_bestFor_24L k4 n s x1 x2 x3 x4 x5 = some (r, s') → BlkI l yX11_bestFor wsX11_bestFor ({ frames := 5, cells := 0, slots := 0, locals := 112 }) cX11_bestFor 6 (some .int) (dC, dI) (tysA cB cI cJ cZ cS) as 24 (mwS cB cI cJ cZ h a s) [(0, .ref h), (1, .int x1), (2, .int x2), (3, .int x3), (4, .int x4), (5, .int x5)] [] (fun x u => x = r ∧ u = (mwS cB cI cJ cZ h a s')) := by
  intro n
  induction n with
  | zero => intro s x1 x2 x3 x4 x5 hB; exact none_ne hB
  | succ n ih => intro s x1 x2 x3 x4 x5 hB; exact br_bestFor_24 hk4 ih _ _ _ _ _ _ hB
set_option maxHeartbeats 4000000 in
set_option maxRecDepth 100000 in
theorem br_bestFor_4 {l : Launch} {dC : Nat → ClassId} {dI : Nat → Nat → Nat} {cB cI cJ cZ cS : ClassId} {h : Nat} {a : Nat → Nat} {as : List Value} {r : Int32} {s' : RS} {k4 : RS → Int32 → Int32 → Int32 → Option (Int32 × RS)} (hk4 : ∀ (s : RS) (x1 : Int32) (x2 : Int32) (x3 : Int32), k4 s x1 x2 x3 = some (r, s') → BlkI l yX11_bestFor wsX11_bestFor ({ frames := 5, cells := 0, slots := 0, locals := 112 }) cX11_bestFor 6 (some .int) (dC, dI) (tysA cB cI cJ cZ cS) as 4 (mwS cB cI cJ cZ h a s) [(0, .ref h), (1, .int x1), (2, .int x2), (3, .int x3)] [] (fun x u => x = r ∧ u = (mwS cB cI cJ cZ h a s'))) (s : RS) (x1 : Int32) (x2 : Int32) (x3 : Int32) (hB : r_bestFor_4 k4 s x1 x2 x3 = some (r, s')) : BlkI l yX11_bestFor wsX11_bestFor ({ frames := 5, cells := 0, slots := 0, locals := 112 }) cX11_bestFor 6 (some .int) (dC, dI) (tysA cB cI cJ cZ cS) as 4 (mwS cB cI cJ cZ h a s) [(0, .ref h), (1, .int x1), (2, .int x2), (3, .int x3)] [] (fun x u => x = r ∧ u = (mwS cB cI cJ cZ h a s')) := by
  intro p e s0 m below meth c A E H locs ls hP hD hS hl
  obtain ⟨C, hr, hlocks, hA, hK, hN⟩ := id E
  obtain ⟨hx, hb, hml, hown, hts⟩ := id C
  unfold r_bestFor_4 at hB
  refine lv_iload_n hx hb dX11_bestFor_4 rfl (lv_at hl 3 rfl) ?_
  refine lv_aload_n hx hb dX11_bestFor_5 rfl (lv_at hl 0 rfl) ?_
  refine q_get (v := .ref (a 20)) C inX11_bestFor_X11 hK hP 0 rfl rfl 20 (by decide) rfl LX11_bestFor_40 rfl dX11_bestFor_6 ?_
  refine lv_aload_n hx hb dX11_bestFor_9 rfl (lv_at hl 0 rfl) ?_
  refine q_get (v := .int (s.v 18)) C inX11_bestFor_X11 hK hP 0 rfl rfl 18 (by decide) rfl LX11_bestFor_215 rfl dX11_bestFor_10 ?_
  obtain ⟨g1, hB⟩ := guard_inv hB
  refine q_iald (x := (s.f 20 (Int32.toNatClampNeg (s.v 18)))) C hK hP 8 1 rfl rfl (vpb_in g1) dX11_bestFor_13 rfl ?_
  refine lv_icmp_ge (tgt := 115) hx hb dX11_bestFor_14 (by decide) (fun c2 => ?_) (fun c2 => ?_)
  · have hB := if_p hB c2
    refine lv_iload_n hx hb dX11_bestFor_115 rfl (lv_at hl 2 rfl) ?_
    exact q_iret C hr hlocks hK hP hD hS (Nat.le_of_ble_eq_true rfl) (Nat.le_of_ble_eq_true rfl) dX11_bestFor_116 (by cases hB; exact ⟨rfl, rfl⟩)
  · have hB := if_n hB c2
    refine lv_bipush (v := (-2)) hx hb dX11_bestFor_17 (by decide) ?_
    refine lv_istore (lv' := [(4, .int (-2)), (0, .ref h), (1, .int x1), (2, .int x2), (3, .int x3)]) hx hb dX11_bestFor_19 hl (by decide) rfl (fun ls hl => ?_)
    refine lv_iconst (v := 0) hx hb dX11_bestFor_21 (by decide) ?_
    refine lv_istore (lv' := [(5, .int 0), (4, .int (-2)), (0, .ref h), (1, .int x1), (2, .int x2), (3, .int x3)]) hx hb dX11_bestFor_22 hl (by decide) rfl (fun ls hl => ?_)
    exact br_bestFor_24L (hk4) fu _ _ _ _ _ _ hB p e s0 m below meth c A E H locs ls hP hD hS (lv_sub hl [2, 3, 4, 5, 1, 0] rfl)
theorem br_bestFor_4L {l : Launch} {dC : Nat → ClassId} {dI : Nat → Nat → Nat} {cB cI cJ cZ cS : ClassId} {h : Nat} {a : Nat → Nat} {as : List Value} {r : Int32} {s' : RS} : ∀ (n : Nat) (s : RS) (x1 : Int32) (x2 : Int32) (x3 : Int32), r_bestFor_4L n s x1 x2 x3 = some (r, s') → BlkI l yX11_bestFor wsX11_bestFor ({ frames := 5, cells := 0, slots := 0, locals := 112 }) cX11_bestFor 6 (some .int) (dC, dI) (tysA cB cI cJ cZ cS) as 4 (mwS cB cI cJ cZ h a s) [(0, .ref h), (1, .int x1), (2, .int x2), (3, .int x3)] [] (fun x u => x = r ∧ u = (mwS cB cI cJ cZ h a s')) := by
  intro n
  induction n with
  | zero => intro s x1 x2 x3 hB; exact none_ne hB
  | succ n ih => intro s x1 x2 x3 hB; exact br_bestFor_4 ih _ _ _ _ hB
set_option maxHeartbeats 4000000 in
set_option maxRecDepth 100000 in
theorem br_bestFor {l : Launch} {dC : Nat → ClassId} {dI : Nat → Nat → Nat} {cB cI cJ cZ cS : ClassId} {h : Nat} {a : Nat → Nat} {as : List Value} {r : Int32} {s' : RS} (s : RS) (x1 : Int32) (hB : r_bestFor s x1 = some (r, s')) : BlkI l yX11_bestFor wsX11_bestFor ({ frames := 5, cells := 0, slots := 0, locals := 112 }) cX11_bestFor 6 (some .int) (dC, dI) (tysA cB cI cJ cZ cS) as 0 (mwS cB cI cJ cZ h a s) [(0, .ref h), (1, .int x1)] [] (fun x u => x = r ∧ u = (mwS cB cI cJ cZ h a s')) := by
  intro p e s0 m below meth c A E H locs ls hP hD hS hl
  obtain ⟨C, hr, hlocks, hA, hK, hN⟩ := id E
  obtain ⟨hx, hb, hml, hown, hts⟩ := id C
  unfold r_bestFor at hB
  refine lv_iconst (v := 0) hx hb dX11_bestFor_0 (by decide) ?_
  refine lv_istore_n (lv' := [(2, .int 0), (0, .ref h), (1, .int x1)]) hx hb dX11_bestFor_1 rfl hl (by decide) rfl (fun ls hl => ?_)
  refine lv_iconst (v := 0) hx hb dX11_bestFor_2 (by decide) ?_
  refine lv_istore_n (lv' := [(3, .int 0), (2, .int 0), (0, .ref h), (1, .int x1)]) hx hb dX11_bestFor_3 rfl hl (by decide) rfl (fun ls hl => ?_)
  exact br_bestFor_4L fu _ _ _ _ hB p e s0 m below meth c A E H locs ls hP hD hS (lv_sub hl [2, 3, 1, 0] rfl)
theorem cr_bestFor {l : Launch} {dC : Nat → ClassId} {dI : Nat → Nat → Nat} {cB cI cJ cZ cS : ClassId} {h : Nat} {a : Nat → Nat} {r : Int32} {s' : RS} {s : RS} {x1 : Int32} (hB : r_bestFor s x1 = some (r, s')) : CI l yX11_bestFor wsX11_bestFor ({ frames := 5, cells := 0, slots := 0, locals := 112 }) (dC, dI) (tysA cB cI cJ cZ cS) (mwS cB cI cJ cZ h a s) [.ref h, .int x1] (fun x u => x = r ∧ u = (mwS cB cI cJ cZ h a s')) :=
  CI_of (cc := cX11_bestFor) (maxL := 6) (ret := (some .int)) (by decide) rfl (Nat.le_of_ble_eq_true rfl) (br_bestFor _ _ hB)
set_option maxHeartbeats 4000000 in
set_option maxRecDepth 100000 in
theorem br_likeliest {l : Launch} {dC : Nat → ClassId} {dI : Nat → Nat → Nat} {cB cI cJ cZ cS : ClassId} {h : Nat} {a : Nat → Nat} {as : List Value} {r : Int32} {s' : RS} (s : RS) (hB : r_likeliest s = some (r, s')) : BlkI l yX11_likeliest wsX11_likeliest ({ frames := 6, cells := 0, slots := 0, locals := 137 }) cX11_likeliest 1 (some .int) (dC, dI) (tysA cB cI cJ cZ cS) as 0 (mwS cB cI cJ cZ h a s) [(0, .ref h)] [] (fun x u => x = r ∧ u = (mwS cB cI cJ cZ h a s')) := by
  intro p e s0 m below meth c A E H locs ls hP hD hS hl
  obtain ⟨C, hr, hlocks, hA, hK, hN⟩ := id E
  obtain ⟨hx, hb, hml, hown, hts⟩ := id C
  unfold r_likeliest at hB
  refine lv_aload_n hx hb dX11_likeliest_0 rfl (lv_at hl 0 rfl) ?_
  obtain ⟨s1, hc, hB⟩ := bindP_inv hB
  refine q_govF (va_runV (As := []) (rest := []) C (cr_copies hc _) (cwV 0 hts gX11_likeliest_X11_copies rfl rfl rfl (by decide +kernel) ⟨Nat.le_of_ble_eq_true rfl, Nat.le_of_ble_eq_true rfl⟩) (q_preV hK hP (ci := 11) (q0 := 0) rfl rfl rfl (q_preF hN hK hP hD)) rfl rfl hl.1 rfl (lv_room (Nat.le_of_ble_eq_true rfl)) dX11_likeliest_1 ⟨Nat.le_of_ble_eq_true rfl, Nat.le_of_ble_eq_true rfl⟩) hD hS hA (fun w1 H locs hw hP hD hS => ?_)
  subst hw
  refine lv_aload_n hx hb dX11_likeliest_4 rfl (lv_at hl 0 rfl) ?_
  refine lv_iconst (v := (-1)) hx hb dX11_likeliest_5 (by decide) ?_
  obtain ⟨q_, s2, hc, hB⟩ := bindI_inv hB
  refine q_goiF (va_runV (As := [.int (-1)]) (rest := []) C (cr_bestFor hc _) (cwV 1 hts gX11_likeliest_X11_bestFor rfl rfl rfl (by decide +kernel) ⟨Nat.le_of_ble_eq_true rfl, Nat.le_of_ble_eq_true rfl⟩) (q_preV hK hP (ci := 11) (q0 := 0) rfl rfl rfl (q_preF hN hK hP hD)) rfl rfl hl.1 rfl (lv_room (Nat.le_of_ble_eq_true rfl)) dX11_likeliest_6 ⟨Nat.le_of_ble_eq_true rfl, Nat.le_of_ble_eq_true rfl⟩) hD hS hA (fun r3 w1 H locs hw hP hD hS => ?_)
  obtain ⟨hq_, hw⟩ := hw; subst hw; subst hq_
  exact q_iret C hr hlocks hK hP hD hS (Nat.le_of_ble_eq_true rfl) (Nat.le_of_ble_eq_true rfl) dX11_likeliest_9 (by cases hB; exact ⟨rfl, rfl⟩)
theorem cr_likeliest {l : Launch} {dC : Nat → ClassId} {dI : Nat → Nat → Nat} {cB cI cJ cZ cS : ClassId} {h : Nat} {a : Nat → Nat} {r : Int32} {s' : RS} {s : RS} (hB : r_likeliest s = some (r, s')) : CI l yX11_likeliest wsX11_likeliest ({ frames := 6, cells := 0, slots := 0, locals := 137 }) (dC, dI) (tysA cB cI cJ cZ cS) (mwS cB cI cJ cZ h a s) [.ref h] (fun x u => x = r ∧ u = (mwS cB cI cJ cZ h a s')) :=
  CI_of (cc := cX11_likeliest) (maxL := 1) (ret := (some .int)) (by decide) rfl (Nat.le_of_ble_eq_true rfl) (br_likeliest _ hB)
set_option maxHeartbeats 4000000 in
set_option maxRecDepth 100000 in
theorem br_bears {l : Launch} {dC : Nat → ClassId} {dI : Nat → Nat → Nat} {cB cI cJ cZ cS : ClassId} {h : Nat} {a : Nat → Nat} {as : List Value} {r : Int32} {s' : RS} (s : RS) (x1 : Int32) (x2 : Int32) (hB : r_bears s x1 x2 = some (r, s')) : BlkI l yX11_bears wsX11_bears ({ frames := 6, cells := 0, slots := 0, locals := 135 }) cX11_bears 3 (some .int) (dC, dI) (tysA cB cI cJ cZ cS) as 0 (mwS cB cI cJ cZ h a s) [(0, .ref h), (1, .int x1), (2, .int x2)] [] (fun x u => x = r ∧ u = (mwS cB cI cJ cZ h a s')) := by
  intro p e s0 m below meth c A E H locs ls hP hD hS hl
  obtain ⟨C, hr, hlocks, hA, hK, hN⟩ := id E
  obtain ⟨hx, hb, hml, hown, hts⟩ := id C
  unfold r_bears at hB
  refine lv_aload_n hx hb dX11_bears_0 rfl (lv_at hl 0 rfl) ?_
  refine lv_iload_n hx hb dX11_bears_1 rfl (lv_at hl 1 rfl) ?_
  obtain ⟨q_, s1, hc, hB⟩ := bindI_inv hB
  refine q_goiF (va_runV (As := [.int x1]) (rest := []) C (cr_isParty hc _) (cwV 1 hts gX11_bears_X11_isParty rfl rfl rfl (by decide +kernel) ⟨Nat.le_of_ble_eq_true rfl, Nat.le_of_ble_eq_true rfl⟩) (q_preV hK hP (ci := 11) (q0 := 0) rfl rfl rfl (q_preF hN hK hP hD)) rfl rfl hl.1 rfl (lv_room (Nat.le_of_ble_eq_true rfl)) dX11_bears_2 ⟨Nat.le_of_ble_eq_true rfl, Nat.le_of_ble_eq_true rfl⟩) hD hS hA (fun r2 w1 H locs hw hP hD hS => ?_)
  obtain ⟨hq_, hw⟩ := hw; subst hw; subst hq_
  refine lv_if_eq (tgt := 16) hx hb dX11_bears_5 (by decide) (fun c3 => ?_) (fun c3 => ?_)
  · have hB := if_p hB c3
    refine lv_iconst (v := (-1)) hx hb dX11_bears_16 (by decide) ?_
    exact q_iret C hr hlocks hK hP hD hS (Nat.le_of_ble_eq_true rfl) (Nat.le_of_ble_eq_true rfl) dX11_bears_17 (by cases hB; exact ⟨rfl, rfl⟩)
  · have hB := if_n hB c3
    refine lv_aload_n hx hb dX11_bears_8 rfl (lv_at hl 0 rfl) ?_
    refine lv_iload_n hx hb dX11_bears_9 rfl (lv_at hl 2 rfl) ?_
    obtain ⟨q_, s4, hc, hB⟩ := bindI_inv hB
    refine q_goiF (va_runV (As := [.int x2]) (rest := []) C (cr_isGuess hc _) (cwV 1 hts gX11_bears_X11_isGuess rfl rfl rfl (by decide +kernel) ⟨Nat.le_of_ble_eq_true rfl, Nat.le_of_ble_eq_true rfl⟩) (q_preV hK hP (ci := 11) (q0 := 0) rfl rfl rfl (q_preF hN hK hP hD)) rfl rfl hl.1 rfl (lv_room (Nat.le_of_ble_eq_true rfl)) dX11_bears_10 ⟨Nat.le_of_ble_eq_true rfl, Nat.le_of_ble_eq_true rfl⟩) hD hS hA (fun r5 w1 H locs hw hP hD hS => ?_)
    obtain ⟨hq_, hw⟩ := hw; subst hw; subst hq_
    refine lv_if_ne (tgt := 18) hx hb dX11_bears_13 (by decide) (fun c6 => ?_) (fun c6 => ?_)
    · have hB := if_n hB c6
      refine lv_aload_n hx hb dX11_bears_18 rfl (lv_at hl 0 rfl) ?_
      obtain ⟨s7, hc, hB⟩ := bindP_inv hB
      refine q_govF (va_runV (As := []) (rest := []) C (cr_copies hc _) (cwV 0 hts gX11_bears_X11_copies rfl rfl rfl (by decide +kernel) ⟨Nat.le_of_ble_eq_true rfl, Nat.le_of_ble_eq_true rfl⟩) (q_preV hK hP (ci := 11) (q0 := 0) rfl rfl rfl (q_preF hN hK hP hD)) rfl rfl hl.1 rfl (lv_room (Nat.le_of_ble_eq_true rfl)) dX11_bears_19 ⟨Nat.le_of_ble_eq_true rfl, Nat.le_of_ble_eq_true rfl⟩) hD hS hA (fun w1 H locs hw hP hD hS => ?_)
      subst hw
      refine lv_aload_n hx hb dX11_bears_22 rfl (lv_at hl 0 rfl) ?_
      refine lv_iload_n hx hb dX11_bears_23 rfl (lv_at hl 1 rfl) ?_
      refine lv_iload_n hx hb dX11_bears_24 rfl (lv_at hl 2 rfl) ?_
      obtain ⟨q_, s8, hc, hB⟩ := bindI_inv hB
      refine q_goiF (va_runV (As := [.int x1, .int x2]) (rest := []) C (cr_bearsBy hc _) (cwV 2 hts gX11_bears_X11_bearsBy rfl rfl rfl (by decide +kernel) ⟨Nat.le_of_ble_eq_true rfl, Nat.le_of_ble_eq_true rfl⟩) (q_preV hK hP (ci := 11) (q0 := 0) rfl rfl rfl (q_preF hN hK hP hD)) rfl rfl hl.1 rfl (lv_room (Nat.le_of_ble_eq_true rfl)) dX11_bears_25 ⟨Nat.le_of_ble_eq_true rfl, Nat.le_of_ble_eq_true rfl⟩) hD hS hA (fun r9 w1 H locs hw hP hD hS => ?_)
      obtain ⟨hq_, hw⟩ := hw; subst hw; subst hq_
      exact q_iret C hr hlocks hK hP hD hS (Nat.le_of_ble_eq_true rfl) (Nat.le_of_ble_eq_true rfl) dX11_bears_28 (by cases hB; exact ⟨rfl, rfl⟩)
    · have hB := if_p hB c6
      refine lv_iconst (v := (-1)) hx hb dX11_bears_16 (by decide) ?_
      exact q_iret C hr hlocks hK hP hD hS (Nat.le_of_ble_eq_true rfl) (Nat.le_of_ble_eq_true rfl) dX11_bears_17 (by cases hB; exact ⟨rfl, rfl⟩)
theorem cr_bears {l : Launch} {dC : Nat → ClassId} {dI : Nat → Nat → Nat} {cB cI cJ cZ cS : ClassId} {h : Nat} {a : Nat → Nat} {r : Int32} {s' : RS} {s : RS} {x1 : Int32} {x2 : Int32} (hB : r_bears s x1 x2 = some (r, s')) : CI l yX11_bears wsX11_bears ({ frames := 6, cells := 0, slots := 0, locals := 135 }) (dC, dI) (tysA cB cI cJ cZ cS) (mwS cB cI cJ cZ h a s) [.ref h, .int x1, .int x2] (fun x u => x = r ∧ u = (mwS cB cI cJ cZ h a s')) :=
  CI_of (cc := cX11_bears) (maxL := 3) (ret := (some .int)) (by decide) rfl (Nat.le_of_ble_eq_true rfl) (br_bears _ _ _ hB)
set_option maxHeartbeats 4000000 in
set_option maxRecDepth 100000 in
theorem br_safest {l : Launch} {dC : Nat → ClassId} {dI : Nat → Nat → Nat} {cB cI cJ cZ cS : ClassId} {h : Nat} {a : Nat → Nat} {as : List Value} {r : Int32} {s' : RS} (s : RS) (x1 : Int32) (hB : r_safest s x1 = some (r, s')) : BlkI l yX11_safest wsX11_safest ({ frames := 6, cells := 0, slots := 0, locals := 137 }) cX11_safest 2 (some .int) (dC, dI) (tysA cB cI cJ cZ cS) as 0 (mwS cB cI cJ cZ h a s) [(0, .ref h), (1, .int x1)] [] (fun x u => x = r ∧ u = (mwS cB cI cJ cZ h a s')) := by
  intro p e s0 m below meth c A E H locs ls hP hD hS hl
  obtain ⟨C, hr, hlocks, hA, hK, hN⟩ := id E
  obtain ⟨hx, hb, hml, hown, hts⟩ := id C
  unfold r_safest at hB
  refine lv_aload_n hx hb dX11_safest_0 rfl (lv_at hl 0 rfl) ?_
  refine lv_iload_n hx hb dX11_safest_1 rfl (lv_at hl 1 rfl) ?_
  obtain ⟨q_, s1, hc, hB⟩ := bindI_inv hB
  refine q_goiF (va_runV (As := [.int x1]) (rest := []) C (cr_isParty hc _) (cwV 1 hts gX11_safest_X11_isParty rfl rfl rfl (by decide +kernel) ⟨Nat.le_of_ble_eq_true rfl, Nat.le_of_ble_eq_true rfl⟩) (q_preV hK hP (ci := 11) (q0 := 0) rfl rfl rfl (q_preF hN hK hP hD)) rfl rfl hl.1 rfl (lv_room (Nat.le_of_ble_eq_true rfl)) dX11_safest_2 ⟨Nat.le_of_ble_eq_true rfl, Nat.le_of_ble_eq_true rfl⟩) hD hS hA (fun r2 w1 H locs hw hP hD hS => ?_)
  obtain ⟨hq_, hw⟩ := hw; subst hw; subst hq_
  refine lv_if_ne (tgt := 10) hx hb dX11_safest_5 (by decide) (fun c3 => ?_) (fun c3 => ?_)
  · have hB := if_n hB c3
    refine lv_aload_n hx hb dX11_safest_10 rfl (lv_at hl 0 rfl) ?_
    obtain ⟨s4, hc, hB⟩ := bindP_inv hB
    refine q_govF (va_runV (As := []) (rest := []) C (cr_copies hc _) (cwV 0 hts gX11_safest_X11_copies rfl rfl rfl (by decide +kernel) ⟨Nat.le_of_ble_eq_true rfl, Nat.le_of_ble_eq_true rfl⟩) (q_preV hK hP (ci := 11) (q0 := 0) rfl rfl rfl (q_preF hN hK hP hD)) rfl rfl hl.1 rfl (lv_room (Nat.le_of_ble_eq_true rfl)) dX11_safest_11 ⟨Nat.le_of_ble_eq_true rfl, Nat.le_of_ble_eq_true rfl⟩) hD hS hA (fun w1 H locs hw hP hD hS => ?_)
    subst hw
    refine lv_aload_n hx hb dX11_safest_14 rfl (lv_at hl 0 rfl) ?_
    refine lv_iload_n hx hb dX11_safest_15 rfl (lv_at hl 1 rfl) ?_
    obtain ⟨q_, s5, hc, hB⟩ := bindI_inv hB
    refine q_goiF (va_runV (As := [.int x1]) (rest := []) C (cr_bestFor hc _) (cwV 1 hts gX11_safest_X11_bestFor rfl rfl rfl (by decide +kernel) ⟨Nat.le_of_ble_eq_true rfl, Nat.le_of_ble_eq_true rfl⟩) (q_preV hK hP (ci := 11) (q0 := 0) rfl rfl rfl (q_preF hN hK hP hD)) rfl rfl hl.1 rfl (lv_room (Nat.le_of_ble_eq_true rfl)) dX11_safest_16 ⟨Nat.le_of_ble_eq_true rfl, Nat.le_of_ble_eq_true rfl⟩) hD hS hA (fun r6 w1 H locs hw hP hD hS => ?_)
    obtain ⟨hq_, hw⟩ := hw; subst hw; subst hq_
    exact q_iret C hr hlocks hK hP hD hS (Nat.le_of_ble_eq_true rfl) (Nat.le_of_ble_eq_true rfl) dX11_safest_19 (by cases hB; exact ⟨rfl, rfl⟩)
  · have hB := if_p hB c3
    refine lv_iconst (v := (-1)) hx hb dX11_safest_8 (by decide) ?_
    exact q_iret C hr hlocks hK hP hD hS (Nat.le_of_ble_eq_true rfl) (Nat.le_of_ble_eq_true rfl) dX11_safest_9 (by cases hB; exact ⟨rfl, rfl⟩)
theorem cr_safest {l : Launch} {dC : Nat → ClassId} {dI : Nat → Nat → Nat} {cB cI cJ cZ cS : ClassId} {h : Nat} {a : Nat → Nat} {r : Int32} {s' : RS} {s : RS} {x1 : Int32} (hB : r_safest s x1 = some (r, s')) : CI l yX11_safest wsX11_safest ({ frames := 6, cells := 0, slots := 0, locals := 137 }) (dC, dI) (tysA cB cI cJ cZ cS) (mwS cB cI cJ cZ h a s) [.ref h, .int x1] (fun x u => x = r ∧ u = (mwS cB cI cJ cZ h a s')) :=
  CI_of (cc := cX11_safest) (maxL := 2) (ret := (some .int)) (by decide) rfl (Nat.le_of_ble_eq_true rfl) (br_safest _ _ hB)
theorem LX11_enough_215 : Cond.fieldLink RX11 215 "GuessFerryModel" "live" "I" ∈ wsX11_enough := by decide +kernel
theorem LX11_enough_40 : Cond.fieldLink RX11 40 "GuessFerryModel" "waves" "[I" ∈ wsX11_enough := by decide +kernel
theorem inX11_enough_X11 : ∀ w ∈ u_ws RX11 TX11 58, w ∈ wsX11_enough := by decide +kernel
set_option maxHeartbeats 4000000 in
set_option maxRecDepth 100000 in
theorem br_enough_18 {l : Launch} {dC : Nat → ClassId} {dI : Nat → Nat → Nat} {cB cI cJ cZ cS : ClassId} {h : Nat} {a : Nat → Nat} {as : List Value} {r : Int32} {s' : RS} {k18 : RS → Int32 → Int32 → Option (Int32 × RS)} (hk18 : ∀ (s : RS) (x1 : Int32) (x2 : Int32), k18 s x1 x2 = some (r, s') → BlkI l yX11_enough wsX11_enough ({ frames := 3, cells := 0, slots := 0, locals := 67 }) cX11_enough 3 (some .int) (dC, dI) (tysA cB cI cJ cZ cS) as 18 (mwS cB cI cJ cZ h a s) [(0, .ref h), (1, .int x1), (2, .int x2)] [] (fun x u => x = r ∧ u = (mwS cB cI cJ cZ h a s'))) (s : RS) (x1 : Int32) (x2 : Int32) (hB : r_enough_18 k18 s x1 x2 = some (r, s')) : BlkI l yX11_enough wsX11_enough ({ frames := 3, cells := 0, slots := 0, locals := 67 }) cX11_enough 3 (some .int) (dC, dI) (tysA cB cI cJ cZ cS) as 18 (mwS cB cI cJ cZ h a s) [(0, .ref h), (1, .int x1), (2, .int x2)] [] (fun x u => x = r ∧ u = (mwS cB cI cJ cZ h a s')) := by
  intro p e s0 m below meth c A E H locs ls hP hD hS hl
  obtain ⟨C, hr, hlocks, hA, hK, hN⟩ := id E
  obtain ⟨hx, hb, hml, hown, hts⟩ := id C
  unfold r_enough_18 at hB
  refine lv_iload_n hx hb dX11_enough_18 rfl (lv_at hl 2 rfl) ?_
  refine lv_aload_n hx hb dX11_enough_19 rfl (lv_at hl 0 rfl) ?_
  refine q_get (v := .ref (a 20)) C inX11_enough_X11 hK hP 0 rfl rfl 20 (by decide) rfl LX11_enough_40 rfl dX11_enough_20 ?_
  refine lv_aload_n hx hb dX11_enough_23 rfl (lv_at hl 0 rfl) ?_
  refine q_get (v := .int (s.v 18)) C inX11_enough_X11 hK hP 0 rfl rfl 18 (by decide) rfl LX11_enough_215 rfl dX11_enough_24 ?_
  obtain ⟨g1, hB⟩ := guard_inv hB
  refine q_iald (x := (s.f 20 (Int32.toNatClampNeg (s.v 18)))) C hK hP 8 1 rfl rfl (vpb_in g1) dX11_enough_27 rfl ?_
  refine lv_icmp_ge (tgt := 50) hx hb dX11_enough_28 (by decide) (fun c2 => ?_) (fun c2 => ?_)
  · have hB := if_p hB c2
    refine lv_iload_n hx hb dX11_enough_50 rfl (lv_at hl 1 rfl) ?_
    exact q_iret C hr hlocks hK hP hD hS (Nat.le_of_ble_eq_true rfl) (Nat.le_of_ble_eq_true rfl) dX11_enough_51 (by cases hB; exact ⟨rfl, rfl⟩)
  · have hB := if_n hB c2
    refine lv_iload_n hx hb dX11_enough_31 rfl (lv_at hl 1 rfl) ?_
    refine lv_aload_n hx hb dX11_enough_32 rfl (lv_at hl 0 rfl) ?_
    refine lv_iload_n hx hb dX11_enough_33 rfl (lv_at hl 2 rfl) ?_
    obtain ⟨q_, s3, hc, hB⟩ := bindI_inv hB
    refine q_goiF (va_runV (As := [.int x2]) (rest := [.int x1]) C (cr_mayAt hc _) (cwV 1 hts gX11_enough_X11_mayAt rfl rfl rfl (by decide +kernel) ⟨Nat.le_of_ble_eq_true rfl, Nat.le_of_ble_eq_true rfl⟩) (q_preV hK hP (ci := 11) (q0 := 0) rfl rfl rfl (q_preF hN hK hP hD)) rfl rfl hl.1 rfl (lv_room (Nat.le_of_ble_eq_true rfl)) dX11_enough_34 ⟨Nat.le_of_ble_eq_true rfl, Nat.le_of_ble_eq_true rfl⟩) hD hS hA (fun r4 w1 H locs hw hP hD hS => ?_)
    obtain ⟨hq_, hw⟩ := hw; subst hw; subst hq_
    obtain ⟨q_, hc, hB⟩ := bindP_inv hB
    refine q_goi0 (va_runS (As := [.int r4]) (rest := [.int x1]) C (cr_bits hc _) (va_cwS 1 hts gX11_enough_X11_bits rfl rfl rfl (by decide +kernel) ⟨Nat.le_of_ble_eq_true rfl, Nat.le_of_ble_eq_true rfl⟩) (q_pre0 hN hK) rfl rfl hl.1 rfl (lv_room (Nat.le_of_ble_eq_true rfl)) dX11_enough_37 ⟨Nat.le_of_ble_eq_true rfl, Nat.le_of_ble_eq_true rfl⟩) hP hD hS hA (fun r5 w1 H locs hw hP hS => ?_)
    subst hw
    refine lv_iconst (v := 1) hx hb dX11_enough_40 (by decide) ?_
    refine lv_isub hx hb dX11_enough_41 ?_
    refine lv_iadd hx hb dX11_enough_42 ?_
    refine lv_istore_n (lv' := [(1, .int (x1 + (r5 - 1))), (0, .ref h), (2, .int x2)]) hx hb dX11_enough_43 rfl hl (by decide) rfl (fun ls hl => ?_)
    refine lv_iinc (v := (x2 + 1)) (lv' := [(2, .int (x2 + 1)), (1, .int (x1 + (r5 - 1))), (0, .ref h)]) hx hb dX11_enough_44 hl (k := 2) rfl (rfl) (by decide) rfl (fun ls hl => ?_)
    refine lv_goto (tgt := 18) hx hb dX11_enough_47 (by decide) ?_
    exact hk18 _ _ _ hB p e s0 m below meth c A E H locs ls hP hD hS (lv_sub hl [2, 1, 0] rfl)
theorem br_enough_18L {l : Launch} {dC : Nat → ClassId} {dI : Nat → Nat → Nat} {cB cI cJ cZ cS : ClassId} {h : Nat} {a : Nat → Nat} {as : List Value} {r : Int32} {s' : RS} : ∀ (n : Nat) (s : RS) (x1 : Int32) (x2 : Int32), r_enough_18L n s x1 x2 = some (r, s') → BlkI l yX11_enough wsX11_enough ({ frames := 3, cells := 0, slots := 0, locals := 67 }) cX11_enough 3 (some .int) (dC, dI) (tysA cB cI cJ cZ cS) as 18 (mwS cB cI cJ cZ h a s) [(0, .ref h), (1, .int x1), (2, .int x2)] [] (fun x u => x = r ∧ u = (mwS cB cI cJ cZ h a s')) := by
  intro n
  induction n with
  | zero => intro s x1 x2 hB; exact none_ne hB
  | succ n ih => intro s x1 x2 hB; exact br_enough_18 ih _ _ _ hB
set_option maxHeartbeats 4000000 in
set_option maxRecDepth 100000 in
theorem br_enough {l : Launch} {dC : Nat → ClassId} {dI : Nat → Nat → Nat} {cB cI cJ cZ cS : ClassId} {h : Nat} {a : Nat → Nat} {as : List Value} {r : Int32} {s' : RS} (s : RS) (hB : r_enough s = some (r, s')) : BlkI l yX11_enough wsX11_enough ({ frames := 3, cells := 0, slots := 0, locals := 67 }) cX11_enough 3 (some .int) (dC, dI) (tysA cB cI cJ cZ cS) as 0 (mwS cB cI cJ cZ h a s) [(0, .ref h)] [] (fun x u => x = r ∧ u = (mwS cB cI cJ cZ h a s')) := by
  intro p e s0 m below meth c A E H locs ls hP hD hS hl
  obtain ⟨C, hr, hlocks, hA, hK, hN⟩ := id E
  obtain ⟨hx, hb, hml, hown, hts⟩ := id C
  unfold r_enough at hB
  refine lv_aload_n hx hb dX11_enough_0 rfl (lv_at hl 0 rfl) ?_
  obtain ⟨s1, hc, hB⟩ := bindP_inv hB
  refine q_govF (va_runV (As := []) (rest := []) C (cr_copies hc _) (cwV 0 hts gX11_enough_X11_copies rfl rfl rfl (by decide +kernel) ⟨Nat.le_of_ble_eq_true rfl, Nat.le_of_ble_eq_true rfl⟩) (q_preV hK hP (ci := 11) (q0 := 0) rfl rfl rfl (q_preF hN hK hP hD)) rfl rfl hl.1 rfl (lv_room (Nat.le_of_ble_eq_true rfl)) dX11_enough_1 ⟨Nat.le_of_ble_eq_true rfl, Nat.le_of_ble_eq_true rfl⟩) hD hS hA (fun w1 H locs hw hP hD hS => ?_)
  subst hw
  refine lv_aload_n hx hb dX11_enough_4 rfl (lv_at hl 0 rfl) ?_
  obtain ⟨q_, s2, hc, hB⟩ := bindI_inv hB
  refine q_goiF (va_runV (As := []) (rest := []) C (cr_casesNow hc _) (cwV 0 hts gX11_enough_X11_casesNow rfl rfl rfl (by decide +kernel) ⟨Nat.le_of_ble_eq_true rfl, Nat.le_of_ble_eq_true rfl⟩) (q_preV hK hP (ci := 11) (q0 := 0) rfl rfl rfl (q_preF hN hK hP hD)) rfl rfl hl.1 rfl (lv_room (Nat.le_of_ble_eq_true rfl)) dX11_enough_5 ⟨Nat.le_of_ble_eq_true rfl, Nat.le_of_ble_eq_true rfl⟩) hD hS hA (fun r3 w1 H locs hw hP hD hS => ?_)
  obtain ⟨hq_, hw⟩ := hw; subst hw; subst hq_
  refine lv_if_ne (tgt := 14) hx hb dX11_enough_8 (by decide) (fun c4 => ?_) (fun c4 => ?_)
  · have hB := if_n hB c4
    refine lv_iconst (v := 1) hx hb dX11_enough_14 (by decide) ?_
    refine lv_istore_n (lv' := [(1, .int 1), (0, .ref h)]) hx hb dX11_enough_15 rfl hl (by decide) rfl (fun ls hl => ?_)
    refine lv_iconst (v := 0) hx hb dX11_enough_16 (by decide) ?_
    refine lv_istore_n (lv' := [(2, .int 0), (1, .int 1), (0, .ref h)]) hx hb dX11_enough_17 rfl hl (by decide) rfl (fun ls hl => ?_)
    exact br_enough_18L fu _ _ _ hB p e s0 m below meth c A E H locs ls hP hD hS (lv_sub hl [2, 1, 0] rfl)
  · have hB := if_p hB c4
    refine lv_bipush (v := (-2)) hx hb dX11_enough_11 (by decide) ?_
    exact q_iret C hr hlocks hK hP hD hS (Nat.le_of_ble_eq_true rfl) (Nat.le_of_ble_eq_true rfl) dX11_enough_13 (by cases hB; exact ⟨rfl, rfl⟩)
theorem cr_enough {l : Launch} {dC : Nat → ClassId} {dI : Nat → Nat → Nat} {cB cI cJ cZ cS : ClassId} {h : Nat} {a : Nat → Nat} {r : Int32} {s' : RS} {s : RS} (hB : r_enough s = some (r, s')) : CI l yX11_enough wsX11_enough ({ frames := 3, cells := 0, slots := 0, locals := 67 }) (dC, dI) (tysA cB cI cJ cZ cS) (mwS cB cI cJ cZ h a s) [.ref h] (fun x u => x = r ∧ u = (mwS cB cI cJ cZ h a s')) :=
  CI_of (cc := cX11_enough) (maxL := 3) (ret := (some .int)) (by decide) rfl (Nat.le_of_ble_eq_true rfl) (br_enough _ hB)
theorem LX11_leftOf_215 : Cond.fieldLink RX11 215 "GuessFerryModel" "live" "I" ∈ wsX11_leftOf := by decide +kernel
theorem LX11_leftOf_40 : Cond.fieldLink RX11 40 "GuessFerryModel" "waves" "[I" ∈ wsX11_leftOf := by decide +kernel
theorem inX11_leftOf_X11 : ∀ w ∈ u_ws RX11 TX11 58, w ∈ wsX11_leftOf := by decide +kernel
set_option maxHeartbeats 4000000 in
set_option maxRecDepth 100000 in
theorem br_leftOf_72 {l : Launch} {dC : Nat → ClassId} {dI : Nat → Nat → Nat} {cB cI cJ cZ cS : ClassId} {h : Nat} {a : Nat → Nat} {as : List Value} {r : Int32} {s' : RS} {k10 : RS → Int32 → Int32 → Int32 → Int32 → Option (Int32 × RS)} (hk10 : ∀ (s : RS) (x1 : Int32) (x2 : Int32) (x3 : Int32) (x4 : Int32), k10 s x1 x2 x3 x4 = some (r, s') → BlkI l yX11_leftOf wsX11_leftOf ({ frames := 3, cells := 0, slots := 0, locals := 67 }) cX11_leftOf 7 (some .int) (dC, dI) (tysA cB cI cJ cZ cS) as 10 (mwS cB cI cJ cZ h a s) [(0, .ref h), (1, .int x1), (2, .int x2), (3, .int x3), (4, .int x4)] [] (fun x u => x = r ∧ u = (mwS cB cI cJ cZ h a s'))) (s : RS) (x1 : Int32) (x2 : Int32) (x3 : Int32) (x4 : Int32) (x5 : Int32) (x6 : Int32) (hB : r_leftOf_72 k10 s x1 x2 x3 x4 x5 x6 = some (r, s')) : BlkI l yX11_leftOf wsX11_leftOf ({ frames := 3, cells := 0, slots := 0, locals := 67 }) cX11_leftOf 7 (some .int) (dC, dI) (tysA cB cI cJ cZ cS) as 72 (mwS cB cI cJ cZ h a s) [(0, .ref h), (1, .int x1), (2, .int x2), (3, .int x3), (4, .int x4), (5, .int x5), (6, .int x6)] [] (fun x u => x = r ∧ u = (mwS cB cI cJ cZ h a s')) := by
  intro p e s0 m below meth c A E H locs ls hP hD hS hl
  obtain ⟨C, hr, hlocks, hA, hK, hN⟩ := id E
  obtain ⟨hx, hb, hml, hown, hts⟩ := id C
  unfold r_leftOf_72 at hB
  refine lv_iload hx hb dX11_leftOf_72 (lv_at hl 6 rfl) ?_
  refine lv_iload hx hb dX11_leftOf_74 (lv_at hl 5 rfl) ?_
  obtain ⟨q_, hc, hB⟩ := bindP_inv hB
  refine q_goi0 (va_runS (As := [.int x5]) (rest := [.int x6]) C (cr_bits hc _) (va_cwS 1 hts gX11_leftOf_X11_bits rfl rfl rfl (by decide +kernel) ⟨Nat.le_of_ble_eq_true rfl, Nat.le_of_ble_eq_true rfl⟩) (q_pre0 hN hK) rfl rfl hl.1 rfl (lv_room (Nat.le_of_ble_eq_true rfl)) dX11_leftOf_76 ⟨Nat.le_of_ble_eq_true rfl, Nat.le_of_ble_eq_true rfl⟩) hP hD hS hA (fun r1 w1 H locs hw hP hS => ?_)
  subst hw
  refine lv_icmp_ne (tgt := 84) hx hb dX11_leftOf_79 (by decide) (fun c2 => ?_) (fun c2 => ?_)
  · have hB := if_n hB c2
    refine lv_iinc (v := (x4 + 1)) (lv' := [(4, .int (x4 + 1)), (0, .ref h), (1, .int x1), (2, .int x2), (3, .int x3), (5, .int x5), (6, .int x6)]) hx hb dX11_leftOf_84 hl (k := 4) rfl (rfl) (by decide) rfl (fun ls hl => ?_)
    refine lv_goto (tgt := 10) hx hb dX11_leftOf_87 (by decide) ?_
    exact hk10 _ _ _ _ _ hB p e s0 m below meth c A E H locs ls hP hD hS (lv_sub hl [1, 2, 3, 4, 0] rfl)
  · have hB := if_p hB c2
    refine lv_iload_n hx hb dX11_leftOf_82 rfl (lv_at hl 2 rfl) ?_
    exact q_iret C hr hlocks hK hP hD hS (Nat.le_of_ble_eq_true rfl) (Nat.le_of_ble_eq_true rfl) dX11_leftOf_83 (by cases hB; exact ⟨rfl, rfl⟩)
set_option maxHeartbeats 4000000 in
set_option maxRecDepth 100000 in
theorem br_leftOf_10 {l : Launch} {dC : Nat → ClassId} {dI : Nat → Nat → Nat} {cB cI cJ cZ cS : ClassId} {h : Nat} {a : Nat → Nat} {as : List Value} {r : Int32} {s' : RS} {k10 : RS → Int32 → Int32 → Int32 → Int32 → Option (Int32 × RS)} (hk10 : ∀ (s : RS) (x1 : Int32) (x2 : Int32) (x3 : Int32) (x4 : Int32), k10 s x1 x2 x3 x4 = some (r, s') → BlkI l yX11_leftOf wsX11_leftOf ({ frames := 3, cells := 0, slots := 0, locals := 67 }) cX11_leftOf 7 (some .int) (dC, dI) (tysA cB cI cJ cZ cS) as 10 (mwS cB cI cJ cZ h a s) [(0, .ref h), (1, .int x1), (2, .int x2), (3, .int x3), (4, .int x4)] [] (fun x u => x = r ∧ u = (mwS cB cI cJ cZ h a s'))) (s : RS) (x1 : Int32) (x2 : Int32) (x3 : Int32) (x4 : Int32) (hB : r_leftOf_10 k10 s x1 x2 x3 x4 = some (r, s')) : BlkI l yX11_leftOf wsX11_leftOf ({ frames := 3, cells := 0, slots := 0, locals := 67 }) cX11_leftOf 7 (some .int) (dC, dI) (tysA cB cI cJ cZ cS) as 10 (mwS cB cI cJ cZ h a s) [(0, .ref h), (1, .int x1), (2, .int x2), (3, .int x3), (4, .int x4)] [] (fun x u => x = r ∧ u = (mwS cB cI cJ cZ h a s')) := by
  intro p e s0 m below meth c A E H locs ls hP hD hS hl
  obtain ⟨C, hr, hlocks, hA, hK, hN⟩ := id E
  obtain ⟨hx, hb, hml, hown, hts⟩ := id C
  unfold r_leftOf_10 at hB
  refine lv_iload hx hb dX11_leftOf_10 (lv_at hl 4 rfl) ?_
  refine lv_aload_n hx hb dX11_leftOf_12 rfl (lv_at hl 0 rfl) ?_
  refine q_get (v := .ref (a 20)) C inX11_leftOf_X11 hK hP 0 rfl rfl 20 (by decide) rfl LX11_leftOf_40 rfl dX11_leftOf_13 ?_
  refine lv_aload_n hx hb dX11_leftOf_16 rfl (lv_at hl 0 rfl) ?_
  refine q_get (v := .int (s.v 18)) C inX11_leftOf_X11 hK hP 0 rfl rfl 18 (by decide) rfl LX11_leftOf_215 rfl dX11_leftOf_17 ?_
  obtain ⟨g1, hB⟩ := guard_inv hB
  refine q_iald (x := (s.f 20 (Int32.toNatClampNeg (s.v 18)))) C hK hP 8 1 rfl rfl (vpb_in g1) dX11_leftOf_20 rfl ?_
  refine lv_icmp_ge (tgt := 90) hx hb dX11_leftOf_21 (by decide) (fun c2 => ?_) (fun c2 => ?_)
  · have hB := if_p hB c2
    refine lv_iload_n hx hb dX11_leftOf_90 rfl (lv_at hl 2 rfl) ?_
    refine lv_iconst (v := 1) hx hb dX11_leftOf_91 (by decide) ?_
    refine lv_icmp_le (tgt := 99) hx hb dX11_leftOf_92 (by decide) (fun c3 => ?_) (fun c3 => ?_)
    · have hB := if_p hB c3
      refine lv_iconst (v := 1) hx hb dX11_leftOf_99 (by decide) ?_
      exact q_iret C hr hlocks hK hP hD hS (Nat.le_of_ble_eq_true rfl) (Nat.le_of_ble_eq_true rfl) dX11_leftOf_100 (by cases hB; exact ⟨rfl, rfl⟩)
    · have hB := if_n hB c3
      refine lv_iload_n hx hb dX11_leftOf_95 rfl (lv_at hl 2 rfl) ?_
      refine lv_goto (tgt := 100) hx hb dX11_leftOf_96 (by decide) ?_
      exact q_iret C hr hlocks hK hP hD hS (Nat.le_of_ble_eq_true rfl) (Nat.le_of_ble_eq_true rfl) dX11_leftOf_100 (by cases hB; exact ⟨rfl, rfl⟩)
  · have hB := if_n hB c2
    refine lv_aload_n hx hb dX11_leftOf_24 rfl (lv_at hl 0 rfl) ?_
    refine lv_iload hx hb dX11_leftOf_25 (lv_at hl 4 rfl) ?_
    obtain ⟨q_, s4, hc, hB⟩ := bindI_inv hB
    refine q_goiF (va_runV (As := [.int x4]) (rest := []) C (cr_mayAt hc _) (cwV 1 hts gX11_leftOf_X11_mayAt rfl rfl rfl (by decide +kernel) ⟨Nat.le_of_ble_eq_true rfl, Nat.le_of_ble_eq_true rfl⟩) (q_preV hK hP (ci := 11) (q0 := 0) rfl rfl rfl (q_preF hN hK hP hD)) rfl rfl hl.1 rfl (lv_room (Nat.le_of_ble_eq_true rfl)) dX11_leftOf_27 ⟨Nat.le_of_ble_eq_true rfl, Nat.le_of_ble_eq_true rfl⟩) hD hS hA (fun r5 w1 H locs hw hP hD hS => ?_)
    obtain ⟨hq_, hw⟩ := hw; subst hw; subst hq_
    refine lv_istore (lv' := [(5, .int r5), (0, .ref h), (1, .int x1), (2, .int x2), (3, .int x3), (4, .int x4)]) hx hb dX11_leftOf_30 hl (by decide) rfl (fun ls hl => ?_)
    refine lv_iload_n hx hb dX11_leftOf_32 rfl (lv_at hl 4 rfl) ?_
    refine lv_iload hx hb dX11_leftOf_33 (lv_at hl 0 rfl) ?_
    obtain ⟨q_, hc, hB⟩ := bindP_inv hB
    refine q_goi0 (va_runS (As := [.int r5]) (rest := [.int x3]) C (cr_bits hc _) (va_cwS 1 hts gX11_leftOf_X11_bits rfl rfl rfl (by decide +kernel) ⟨Nat.le_of_ble_eq_true rfl, Nat.le_of_ble_eq_true rfl⟩) (q_pre0 hN hK) rfl rfl hl.1 rfl (lv_room (Nat.le_of_ble_eq_true rfl)) dX11_leftOf_35 ⟨Nat.le_of_ble_eq_true rfl, Nat.le_of_ble_eq_true rfl⟩) hP hD hS hA (fun r6 w1 H locs hw hP hS => ?_)
    subst hw
    obtain ⟨z7, hB⟩ := guard_inv hB
    refine lv_idiv hx hb dX11_leftOf_38 z7 ?_
    refine lv_istore_n (lv' := [(3, .int (x3 / r6)), (5, .int r5), (0, .ref h), (1, .int x1), (2, .int x2), (4, .int x4)]) hx hb dX11_leftOf_39 rfl hl (by decide) rfl (fun ls hl => ?_)
    refine lv_iload hx hb dX11_leftOf_40 (lv_at hl 1 rfl) ?_
    refine lv_iconst (v := 1) hx hb dX11_leftOf_42 (by decide) ?_
    refine lv_aload_n hx hb dX11_leftOf_43 rfl (lv_at hl 2 rfl) ?_
    refine lv_iload_n hx hb dX11_leftOf_44 rfl (lv_at hl 3 rfl) ?_
    refine lv_iload hx hb dX11_leftOf_45 (lv_at hl 5 rfl) ?_
    obtain ⟨q_, s8, hc, hB⟩ := bindI_inv hB
    refine q_goiF (va_runV (As := [.int x1, .int x4]) (rest := [.int 1, .int r5]) C (cr_thingAt hc _) (cwV 2 hts gX11_leftOf_X11_thingAt rfl rfl rfl (by decide +kernel) ⟨Nat.le_of_ble_eq_true rfl, Nat.le_of_ble_eq_true rfl⟩) (q_preV hK hP (ci := 11) (q0 := 0) rfl rfl rfl (q_preF hN hK hP hD)) rfl rfl hl.1 rfl (lv_room (Nat.le_of_ble_eq_true rfl)) dX11_leftOf_47 ⟨Nat.le_of_ble_eq_true rfl, Nat.le_of_ble_eq_true rfl⟩) hD hS hA (fun r9 w1 H locs hw hP hD hS => ?_)
    obtain ⟨hq_, hw⟩ := hw; subst hw; subst hq_
    refine lv_ishl hx hb dX11_leftOf_50 ?_
    refine lv_iconst (v := (-1)) hx hb dX11_leftOf_51 (by decide) ?_
    refine lv_ixor hx hb dX11_leftOf_52 ?_
    refine lv_iand hx hb dX11_leftOf_53 ?_
    obtain ⟨q_, hc, hB⟩ := bindP_inv hB
    refine q_goi0 (va_runS (As := [.int (r5 &&& ((1 <<< (r9 &&& 31)) ^^^ (-1)))]) (rest := []) C (cr_bits hc _) (va_cwS 1 hts gX11_leftOf_X11_bits rfl rfl rfl (by decide +kernel) ⟨Nat.le_of_ble_eq_true rfl, Nat.le_of_ble_eq_true rfl⟩) (q_pre0 hN hK) rfl rfl hl.1 rfl (lv_room (Nat.le_of_ble_eq_true rfl)) dX11_leftOf_54 ⟨Nat.le_of_ble_eq_true rfl, Nat.le_of_ble_eq_true rfl⟩) hP hD hS hA (fun r10 w1 H locs hw hP hS => ?_)
    subst hw
    refine lv_istore (lv' := [(6, .int r10), (3, .int (x3 / r6)), (5, .int r5), (0, .ref h), (1, .int x1), (2, .int x2), (4, .int x4)]) hx hb dX11_leftOf_57 hl (by decide) rfl (fun ls hl => ?_)
    refine lv_iload hx hb dX11_leftOf_59 (lv_at hl 0 rfl) ?_
    refine lv_iload_n hx hb dX11_leftOf_61 rfl (lv_at hl 1 rfl) ?_
    refine lv_imul hx hb dX11_leftOf_62 ?_
    refine lv_iload_n hx hb dX11_leftOf_63 rfl (lv_at hl 5 rfl) ?_
    refine lv_icmp_le (tgt := 72) hx hb dX11_leftOf_64 (by decide) (fun c11 => ?_) (fun c11 => ?_)
    · have hB := if_p hB c11
      exact br_leftOf_72 (hk10) _ _ _ _ _ _ _ hB p e s0 m below meth c A E H locs ls hP hD hS (lv_sub hl [3, 4, 5, 1, 6, 2, 0] rfl)
    · have hB := if_n hB c11
      refine lv_iload hx hb dX11_leftOf_67 (lv_at hl 0 rfl) ?_
      refine lv_iload_n hx hb dX11_leftOf_69 rfl (lv_at hl 1 rfl) ?_
      refine lv_imul hx hb dX11_leftOf_70 ?_
      refine lv_istore_n (lv' := [(2, .int (r10 * (x3 / r6))), (6, .int r10), (3, .int (x3 / r6)), (5, .int r5), (0, .ref h), (1, .int x1), (4, .int x4)]) hx hb dX11_leftOf_71 rfl hl (by decide) rfl (fun ls hl => ?_)
      exact br_leftOf_72 (hk10) _ _ _ _ _ _ _ hB p e s0 m below meth c A E H locs ls hP hD hS (lv_sub hl [4, 5, 0, 2, 6, 3, 1] rfl)
theorem br_leftOf_10L {l : Launch} {dC : Nat → ClassId} {dI : Nat → Nat → Nat} {cB cI cJ cZ cS : ClassId} {h : Nat} {a : Nat → Nat} {as : List Value} {r : Int32} {s' : RS} : ∀ (n : Nat) (s : RS) (x1 : Int32) (x2 : Int32) (x3 : Int32) (x4 : Int32), r_leftOf_10L n s x1 x2 x3 x4 = some (r, s') → BlkI l yX11_leftOf wsX11_leftOf ({ frames := 3, cells := 0, slots := 0, locals := 67 }) cX11_leftOf 7 (some .int) (dC, dI) (tysA cB cI cJ cZ cS) as 10 (mwS cB cI cJ cZ h a s) [(0, .ref h), (1, .int x1), (2, .int x2), (3, .int x3), (4, .int x4)] [] (fun x u => x = r ∧ u = (mwS cB cI cJ cZ h a s')) := by
  intro n
  induction n with
  | zero => intro s x1 x2 x3 x4 hB; exact none_ne hB
  | succ n ih => intro s x1 x2 x3 x4 hB; exact br_leftOf_10 ih _ _ _ _ _ hB
set_option maxHeartbeats 4000000 in
set_option maxRecDepth 100000 in
theorem br_leftOf {l : Launch} {dC : Nat → ClassId} {dI : Nat → Nat → Nat} {cB cI cJ cZ cS : ClassId} {h : Nat} {a : Nat → Nat} {as : List Value} {r : Int32} {s' : RS} (s : RS) (x1 : Int32) (hB : r_leftOf s x1 = some (r, s')) : BlkI l yX11_leftOf wsX11_leftOf ({ frames := 3, cells := 0, slots := 0, locals := 67 }) cX11_leftOf 7 (some .int) (dC, dI) (tysA cB cI cJ cZ cS) as 0 (mwS cB cI cJ cZ h a s) [(0, .ref h), (1, .int x1)] [] (fun x u => x = r ∧ u = (mwS cB cI cJ cZ h a s')) := by
  intro p e s0 m below meth c A E H locs ls hP hD hS hl
  obtain ⟨C, hr, hlocks, hA, hK, hN⟩ := id E
  obtain ⟨hx, hb, hml, hown, hts⟩ := id C
  unfold r_leftOf at hB
  refine lv_iconst (v := 0) hx hb dX11_leftOf_0 (by decide) ?_
  refine lv_istore_n (lv' := [(2, .int 0), (0, .ref h), (1, .int x1)]) hx hb dX11_leftOf_1 rfl hl (by decide) rfl (fun ls hl => ?_)
  refine lv_aload_n hx hb dX11_leftOf_2 rfl (lv_at hl 1 rfl) ?_
  obtain ⟨q_, s1, hc, hB⟩ := bindI_inv hB
  refine q_goiF (va_runV (As := []) (rest := []) C (cr_casesNow hc _) (cwV 0 hts gX11_leftOf_X11_casesNow rfl rfl rfl (by decide +kernel) ⟨Nat.le_of_ble_eq_true rfl, Nat.le_of_ble_eq_true rfl⟩) (q_preV hK hP (ci := 11) (q0 := 0) rfl rfl rfl (q_preF hN hK hP hD)) rfl rfl hl.1 rfl (lv_room (Nat.le_of_ble_eq_true rfl)) dX11_leftOf_3 ⟨Nat.le_of_ble_eq_true rfl, Nat.le_of_ble_eq_true rfl⟩) hD hS hA (fun r2 w1 H locs hw hP hD hS => ?_)
  obtain ⟨hq_, hw⟩ := hw; subst hw; subst hq_
  refine lv_istore_n (lv' := [(3, .int r2), (2, .int 0), (0, .ref h), (1, .int x1)]) hx hb dX11_leftOf_6 rfl hl (by decide) rfl (fun ls hl => ?_)
  refine lv_iconst (v := 0) hx hb dX11_leftOf_7 (by decide) ?_
  refine lv_istore (lv' := [(4, .int 0), (3, .int r2), (2, .int 0), (0, .ref h), (1, .int x1)]) hx hb dX11_leftOf_8 hl (by decide) rfl (fun ls hl => ?_)
  exact br_leftOf_10L fu _ _ _ _ _ hB p e s0 m below meth c A E H locs ls hP hD hS (lv_sub hl [3, 4, 2, 1, 0] rfl)
theorem cr_leftOf {l : Launch} {dC : Nat → ClassId} {dI : Nat → Nat → Nat} {cB cI cJ cZ cS : ClassId} {h : Nat} {a : Nat → Nat} {r : Int32} {s' : RS} {s : RS} {x1 : Int32} (hB : r_leftOf s x1 = some (r, s')) : CI l yX11_leftOf wsX11_leftOf ({ frames := 3, cells := 0, slots := 0, locals := 67 }) (dC, dI) (tysA cB cI cJ cZ cS) (mwS cB cI cJ cZ h a s) [.ref h, .int x1] (fun x u => x = r ∧ u = (mwS cB cI cJ cZ h a s')) :=
  CI_of (cc := cX11_leftOf) (maxL := 7) (ret := (some .int)) (by decide) rfl (Nat.le_of_ble_eq_true rfl) (br_leftOf _ _ hB)
set_option maxHeartbeats 4000000 in
set_option maxRecDepth 100000 in
theorem br_left {l : Launch} {dC : Nat → ClassId} {dI : Nat → Nat → Nat} {cB cI cJ cZ cS : ClassId} {h : Nat} {a : Nat → Nat} {as : List Value} {r : Int32} {s' : RS} (s : RS) (x1 : Int32) (hB : r_left s x1 = some (r, s')) : BlkI l yX11_left wsX11_left ({ frames := 4, cells := 0, slots := 0, locals := 93 }) cX11_left 2 (some .int) (dC, dI) (tysA cB cI cJ cZ cS) as 0 (mwS cB cI cJ cZ h a s) [(0, .ref h), (1, .int x1)] [] (fun x u => x = r ∧ u = (mwS cB cI cJ cZ h a s')) := by
  intro p e s0 m below meth c A E H locs ls hP hD hS hl
  obtain ⟨C, hr, hlocks, hA, hK, hN⟩ := id E
  obtain ⟨hx, hb, hml, hown, hts⟩ := id C
  unfold r_left at hB
  refine lv_aload_n hx hb dX11_left_0 rfl (lv_at hl 0 rfl) ?_
  refine lv_iload_n hx hb dX11_left_1 rfl (lv_at hl 1 rfl) ?_
  obtain ⟨q_, s1, hc, hB⟩ := bindI_inv hB
  refine q_goiF (va_runV (As := [.int x1]) (rest := []) C (cr_isGuess hc _) (cwV 1 hts gX11_left_X11_isGuess rfl rfl rfl (by decide +kernel) ⟨Nat.le_of_ble_eq_true rfl, Nat.le_of_ble_eq_true rfl⟩) (q_preV hK hP (ci := 11) (q0 := 0) rfl rfl rfl (q_preF hN hK hP hD)) rfl rfl hl.1 rfl (lv_room (Nat.le_of_ble_eq_true rfl)) dX11_left_2 ⟨Nat.le_of_ble_eq_true rfl, Nat.le_of_ble_eq_true rfl⟩) hD hS hA (fun r2 w1 H locs hw hP hD hS => ?_)
  obtain ⟨hq_, hw⟩ := hw; subst hw; subst hq_
  refine lv_if_ne (tgt := 10) hx hb dX11_left_5 (by decide) (fun c3 => ?_) (fun c3 => ?_)
  · have hB := if_n hB c3
    refine lv_aload_n hx hb dX11_left_10 rfl (lv_at hl 0 rfl) ?_
    obtain ⟨s4, hc, hB⟩ := bindP_inv hB
    refine q_govF (va_runV (As := []) (rest := []) C (cr_copies hc _) (cwV 0 hts gX11_left_X11_copies rfl rfl rfl (by decide +kernel) ⟨Nat.le_of_ble_eq_true rfl, Nat.le_of_ble_eq_true rfl⟩) (q_preV hK hP (ci := 11) (q0 := 0) rfl rfl rfl (q_preF hN hK hP hD)) rfl rfl hl.1 rfl (lv_room (Nat.le_of_ble_eq_true rfl)) dX11_left_11 ⟨Nat.le_of_ble_eq_true rfl, Nat.le_of_ble_eq_true rfl⟩) hD hS hA (fun w1 H locs hw hP hD hS => ?_)
    subst hw
    refine lv_aload_n hx hb dX11_left_14 rfl (lv_at hl 0 rfl) ?_
    obtain ⟨q_, s5, hc, hB⟩ := bindI_inv hB
    refine q_goiF (va_runV (As := []) (rest := []) C (cr_casesNow hc _) (cwV 0 hts gX11_left_X11_casesNow rfl rfl rfl (by decide +kernel) ⟨Nat.le_of_ble_eq_true rfl, Nat.le_of_ble_eq_true rfl⟩) (q_preV hK hP (ci := 11) (q0 := 0) rfl rfl rfl (q_preF hN hK hP hD)) rfl rfl hl.1 rfl (lv_room (Nat.le_of_ble_eq_true rfl)) dX11_left_15 ⟨Nat.le_of_ble_eq_true rfl, Nat.le_of_ble_eq_true rfl⟩) hD hS hA (fun r6 w1 H locs hw hP hD hS => ?_)
    obtain ⟨hq_, hw⟩ := hw; subst hw; subst hq_
    refine lv_if_ne (tgt := 26) hx hb dX11_left_18 (by decide) (fun c7 => ?_) (fun c7 => ?_)
    · have hB := if_n hB c7
      refine lv_aload_n hx hb dX11_left_26 rfl (lv_at hl 0 rfl) ?_
      refine lv_iload_n hx hb dX11_left_27 rfl (lv_at hl 1 rfl) ?_
      obtain ⟨q_, s8, hc, hB⟩ := bindI_inv hB
      refine q_goiF (va_runV (As := [.int x1]) (rest := []) C (cr_leftOf hc _) (cwV 1 hts gX11_left_X11_leftOf rfl rfl rfl (by decide +kernel) ⟨Nat.le_of_ble_eq_true rfl, Nat.le_of_ble_eq_true rfl⟩) (q_preV hK hP (ci := 11) (q0 := 0) rfl rfl rfl (q_preF hN hK hP hD)) rfl rfl hl.1 rfl (lv_room (Nat.le_of_ble_eq_true rfl)) dX11_left_28 ⟨Nat.le_of_ble_eq_true rfl, Nat.le_of_ble_eq_true rfl⟩) hD hS hA (fun r9 w1 H locs hw hP hD hS => ?_)
      obtain ⟨hq_, hw⟩ := hw; subst hw; subst hq_
      exact q_iret C hr hlocks hK hP hD hS (Nat.le_of_ble_eq_true rfl) (Nat.le_of_ble_eq_true rfl) dX11_left_31 (by cases hB; exact ⟨rfl, rfl⟩)
    · have hB := if_p hB c7
      refine lv_bipush (v := (-2)) hx hb dX11_left_21 (by decide) ?_
      refine lv_goto (tgt := 31) hx hb dX11_left_23 (by decide) ?_
      exact q_iret C hr hlocks hK hP hD hS (Nat.le_of_ble_eq_true rfl) (Nat.le_of_ble_eq_true rfl) dX11_left_31 (by cases hB; exact ⟨rfl, rfl⟩)
  · have hB := if_p hB c3
    refine lv_iconst (v := (-1)) hx hb dX11_left_8 (by decide) ?_
    exact q_iret C hr hlocks hK hP hD hS (Nat.le_of_ble_eq_true rfl) (Nat.le_of_ble_eq_true rfl) dX11_left_9 (by cases hB; exact ⟨rfl, rfl⟩)
theorem cr_left {l : Launch} {dC : Nat → ClassId} {dI : Nat → Nat → Nat} {cB cI cJ cZ cS : ClassId} {h : Nat} {a : Nat → Nat} {r : Int32} {s' : RS} {s : RS} {x1 : Int32} (hB : r_left s x1 = some (r, s')) : CI l yX11_left wsX11_left ({ frames := 4, cells := 0, slots := 0, locals := 93 }) (dC, dI) (tysA cB cI cJ cZ cS) (mwS cB cI cJ cZ h a s) [.ref h, .int x1] (fun x u => x = r ∧ u = (mwS cB cI cJ cZ h a s')) :=
  CI_of (cc := cX11_left) (maxL := 2) (ret := (some .int)) (by decide) rfl (Nat.le_of_ble_eq_true rfl) (br_left _ _ hB)
set_option maxHeartbeats 4000000 in
set_option maxRecDepth 100000 in
theorem br_wisest_68 {l : Launch} {dC : Nat → ClassId} {dI : Nat → Nat → Nat} {cB cI cJ cZ cS : ClassId} {h : Nat} {a : Nat → Nat} {as : List Value} {r : Int32} {s' : RS} {k36 : RS → Int32 → Int32 → Int32 → Int32 → Option (Int32 × RS)} (hk36 : ∀ (s : RS) (x1 : Int32) (x2 : Int32) (x3 : Int32) (x4 : Int32), k36 s x1 x2 x3 x4 = some (r, s') → BlkI l yX11_wisest wsX11_wisest ({ frames := 4, cells := 0, slots := 0, locals := 93 }) cX11_wisest 6 (some .int) (dC, dI) (tysA cB cI cJ cZ cS) as 36 (mwS cB cI cJ cZ h a s) [(0, .ref h), (1, .int x1), (2, .int x2), (3, .int x3), (4, .int x4)] [] (fun x u => x = r ∧ u = (mwS cB cI cJ cZ h a s'))) (s : RS) (x1 : Int32) (x2 : Int32) (x3 : Int32) (x4 : Int32) (hB : r_wisest_68 k36 s x1 x2 x3 x4 = some (r, s')) : BlkI l yX11_wisest wsX11_wisest ({ frames := 4, cells := 0, slots := 0, locals := 93 }) cX11_wisest 6 (some .int) (dC, dI) (tysA cB cI cJ cZ cS) as 68 (mwS cB cI cJ cZ h a s) [(0, .ref h), (1, .int x1), (2, .int x2), (3, .int x3), (4, .int x4)] [] (fun x u => x = r ∧ u = (mwS cB cI cJ cZ h a s')) := by
  intro p e s0 m below meth c A E H locs ls hP hD hS hl
  obtain ⟨C, hr, hlocks, hA, hK, hN⟩ := id E
  obtain ⟨hx, hb, hml, hown, hts⟩ := id C
  unfold r_wisest_68 at hB
  refine lv_iinc (v := (x4 + 1)) (lv' := [(4, .int (x4 + 1)), (0, .ref h), (1, .int x1), (2, .int x2), (3, .int x3)]) hx hb dX11_wisest_68 hl (k := 4) rfl (rfl) (by decide) rfl (fun ls hl => ?_)
  refine lv_goto (tgt := 36) hx hb dX11_wisest_71 (by decide) ?_
  exact hk36 _ _ _ _ _ hB p e s0 m below meth c A E H locs ls hP hD hS (lv_sub hl [1, 2, 3, 4, 0] rfl)
set_option maxHeartbeats 4000000 in
set_option maxRecDepth 100000 in
theorem br_wisest_36 {l : Launch} {dC : Nat → ClassId} {dI : Nat → Nat → Nat} {cB cI cJ cZ cS : ClassId} {h : Nat} {a : Nat → Nat} {as : List Value} {r : Int32} {s' : RS} {k36 : RS → Int32 → Int32 → Int32 → Int32 → Option (Int32 × RS)} (hk36 : ∀ (s : RS) (x1 : Int32) (x2 : Int32) (x3 : Int32) (x4 : Int32), k36 s x1 x2 x3 x4 = some (r, s') → BlkI l yX11_wisest wsX11_wisest ({ frames := 4, cells := 0, slots := 0, locals := 93 }) cX11_wisest 6 (some .int) (dC, dI) (tysA cB cI cJ cZ cS) as 36 (mwS cB cI cJ cZ h a s) [(0, .ref h), (1, .int x1), (2, .int x2), (3, .int x3), (4, .int x4)] [] (fun x u => x = r ∧ u = (mwS cB cI cJ cZ h a s'))) (s : RS) (x1 : Int32) (x2 : Int32) (x3 : Int32) (x4 : Int32) (hB : r_wisest_36 k36 s x1 x2 x3 x4 = some (r, s')) : BlkI l yX11_wisest wsX11_wisest ({ frames := 4, cells := 0, slots := 0, locals := 93 }) cX11_wisest 6 (some .int) (dC, dI) (tysA cB cI cJ cZ cS) as 36 (mwS cB cI cJ cZ h a s) [(0, .ref h), (1, .int x1), (2, .int x2), (3, .int x3), (4, .int x4)] [] (fun x u => x = r ∧ u = (mwS cB cI cJ cZ h a s')) := by
  intro p e s0 m below meth c A E H locs ls hP hD hS hl
  obtain ⟨C, hr, hlocks, hA, hK, hN⟩ := id E
  obtain ⟨hx, hb, hml, hown, hts⟩ := id C
  unfold r_wisest_36 at hB
  refine lv_iload hx hb dX11_wisest_36 (lv_at hl 4 rfl) ?_
  refine lv_aload_n hx hb dX11_wisest_38 rfl (lv_at hl 0 rfl) ?_
  obtain ⟨q_, s1, hc, hB⟩ := bindI_inv hB
  refine q_goiF (va_runV (As := []) (rest := [.int x4]) C (cr_guesses hc _) (cwV 0 hts gX11_wisest_X11_guesses rfl rfl rfl (by decide +kernel) ⟨Nat.le_of_ble_eq_true rfl, Nat.le_of_ble_eq_true rfl⟩) (q_preV hK hP (ci := 11) (q0 := 0) rfl rfl rfl (q_preF hN hK hP hD)) rfl rfl hl.1 rfl (lv_room (Nat.le_of_ble_eq_true rfl)) dX11_wisest_39 ⟨Nat.le_of_ble_eq_true rfl, Nat.le_of_ble_eq_true rfl⟩) hD hS hA (fun r2 w1 H locs hw hP hD hS => ?_)
  obtain ⟨hq_, hw⟩ := hw; subst hw; subst hq_
  refine lv_icmp_ge (tgt := 74) hx hb dX11_wisest_42 (by decide) (fun c3 => ?_) (fun c3 => ?_)
  · have hB := if_p hB c3
    refine lv_iload_n hx hb dX11_wisest_74 rfl (lv_at hl 1 rfl) ?_
    refine lv_if_ne (tgt := 82) hx hb dX11_wisest_75 (by decide) (fun c4 => ?_) (fun c4 => ?_)
    · have hB := if_n hB c4
      refine lv_iload_n hx hb dX11_wisest_82 rfl (lv_at hl 3 rfl) ?_
      exact q_iret C hr hlocks hK hP hD hS (Nat.le_of_ble_eq_true rfl) (Nat.le_of_ble_eq_true rfl) dX11_wisest_83 (by cases hB; exact ⟨rfl, rfl⟩)
    · have hB := if_p hB c4
      refine lv_iload_n hx hb dX11_wisest_78 rfl (lv_at hl 2 rfl) ?_
      refine lv_goto (tgt := 83) hx hb dX11_wisest_79 (by decide) ?_
      exact q_iret C hr hlocks hK hP hD hS (Nat.le_of_ble_eq_true rfl) (Nat.le_of_ble_eq_true rfl) dX11_wisest_83 (by cases hB; exact ⟨rfl, rfl⟩)
  · have hB := if_n hB c3
    refine lv_aload_n hx hb dX11_wisest_45 rfl (lv_at hl 0 rfl) ?_
    refine lv_iload hx hb dX11_wisest_46 (lv_at hl 4 rfl) ?_
    obtain ⟨q_, s5, hc, hB⟩ := bindI_inv hB
    refine q_goiF (va_runV (As := [.int x4]) (rest := []) C (cr_leftOf hc _) (cwV 1 hts gX11_wisest_X11_leftOf rfl rfl rfl (by decide +kernel) ⟨Nat.le_of_ble_eq_true rfl, Nat.le_of_ble_eq_true rfl⟩) (q_preV hK hP (ci := 11) (q0 := 0) rfl rfl rfl (q_preF hN hK hP hD)) rfl rfl hl.1 rfl (lv_room (Nat.le_of_ble_eq_true rfl)) dX11_wisest_48 ⟨Nat.le_of_ble_eq_true rfl, Nat.le_of_ble_eq_true rfl⟩) hD hS hA (fun r6 w1 H locs hw hP hD hS => ?_)
    obtain ⟨hq_, hw⟩ := hw; subst hw; subst hq_
    refine lv_istore (lv' := [(5, .int r6), (0, .ref h), (1, .int x1), (2, .int x2), (3, .int x3), (4, .int x4)]) hx hb dX11_wisest_51 hl (by decide) rfl (fun ls hl => ?_)
    refine lv_iload hx hb dX11_wisest_53 (lv_at hl 0 rfl) ?_
    refine lv_iload_n hx hb dX11_wisest_55 rfl (lv_at hl 4 rfl) ?_
    refine lv_icmp_lt (tgt := 62) hx hb dX11_wisest_56 (by decide) (fun c7 => ?_) (fun c7 => ?_)
    · have hB := if_p hB c7
      refine lv_iload hx hb dX11_wisest_62 (lv_at hl 5 rfl) ?_
      refine lv_istore_n (lv' := [(2, .int x4), (5, .int r6), (0, .ref h), (1, .int x1), (3, .int x3), (4, .int x4)]) hx hb dX11_wisest_64 rfl hl (by decide) rfl (fun ls hl => ?_)
      refine lv_iload hx hb dX11_wisest_65 (lv_at hl 1 rfl) ?_
      refine lv_istore_n (lv' := [(3, .int r6), (2, .int x4), (5, .int r6), (0, .ref h), (1, .int x1), (4, .int x4)]) hx hb dX11_wisest_67 rfl hl (by decide) rfl (fun ls hl => ?_)
      exact br_wisest_68 (hk36) _ _ _ _ _ hB p e s0 m below meth c A E H locs ls hP hD hS (lv_sub hl [3, 4, 1, 0, 5] rfl)
    · have hB := if_n hB c7
      refine lv_goto (tgt := 68) hx hb dX11_wisest_59 (by decide) ?_
      exact br_wisest_68 (hk36) _ _ _ _ _ hB p e s0 m below meth c A E H locs ls hP hD hS (lv_sub hl [1, 2, 3, 4, 5] rfl)
theorem br_wisest_36L {l : Launch} {dC : Nat → ClassId} {dI : Nat → Nat → Nat} {cB cI cJ cZ cS : ClassId} {h : Nat} {a : Nat → Nat} {as : List Value} {r : Int32} {s' : RS} : ∀ (n : Nat) (s : RS) (x1 : Int32) (x2 : Int32) (x3 : Int32) (x4 : Int32), r_wisest_36L n s x1 x2 x3 x4 = some (r, s') → BlkI l yX11_wisest wsX11_wisest ({ frames := 4, cells := 0, slots := 0, locals := 93 }) cX11_wisest 6 (some .int) (dC, dI) (tysA cB cI cJ cZ cS) as 36 (mwS cB cI cJ cZ h a s) [(0, .ref h), (1, .int x1), (2, .int x2), (3, .int x3), (4, .int x4)] [] (fun x u => x = r ∧ u = (mwS cB cI cJ cZ h a s')) := by
  intro n
  induction n with
  | zero => intro s x1 x2 x3 x4 hB; exact none_ne hB
  | succ n ih => intro s x1 x2 x3 x4 hB; exact br_wisest_36 ih _ _ _ _ _ hB
set_option maxHeartbeats 4000000 in
set_option maxRecDepth 100000 in
theorem br_wisest {l : Launch} {dC : Nat → ClassId} {dI : Nat → Nat → Nat} {cB cI cJ cZ cS : ClassId} {h : Nat} {a : Nat → Nat} {as : List Value} {r : Int32} {s' : RS} (s : RS) (x1 : Int32) (hB : r_wisest s x1 = some (r, s')) : BlkI l yX11_wisest wsX11_wisest ({ frames := 4, cells := 0, slots := 0, locals := 93 }) cX11_wisest 6 (some .int) (dC, dI) (tysA cB cI cJ cZ cS) as 0 (mwS cB cI cJ cZ h a s) [(0, .ref h), (1, .int x1)] [] (fun x u => x = r ∧ u = (mwS cB cI cJ cZ h a s')) := by
  intro p e s0 m below meth c A E H locs ls hP hD hS hl
  obtain ⟨C, hr, hlocks, hA, hK, hN⟩ := id E
  obtain ⟨hx, hb, hml, hown, hts⟩ := id C
  unfold r_wisest at hB
  refine lv_iload_n hx hb dX11_wisest_0 rfl (lv_at hl 1 rfl) ?_
  refine lv_iconst (v := 0) hx hb dX11_wisest_1 (by decide) ?_
  refine lv_iconst (v := 1) hx hb dX11_wisest_2 (by decide) ?_
  obtain ⟨q_, hc, hB⟩ := bindP_inv hB
  refine q_goi0 (va_runS (As := [.int x1, .int 0, .int 1]) (rest := []) C (cr_in hc _) (va_cwS 3 hts gX11_wisest_X11_in rfl rfl rfl (by decide +kernel) ⟨Nat.le_of_ble_eq_true rfl, Nat.le_of_ble_eq_true rfl⟩) (q_pre0 hN hK) rfl rfl hl.1 rfl (lv_room (Nat.le_of_ble_eq_true rfl)) dX11_wisest_3 ⟨Nat.le_of_ble_eq_true rfl, Nat.le_of_ble_eq_true rfl⟩) hP hD hS hA (fun r1 w1 H locs hw hP hS => ?_)
  subst hw
  refine lv_if_ne (tgt := 11) hx hb dX11_wisest_6 (by decide) (fun c2 => ?_) (fun c2 => ?_)
  · have hB := if_n hB c2
    refine lv_aload_n hx hb dX11_wisest_11 rfl (lv_at hl 0 rfl) ?_
    obtain ⟨s3, hc, hB⟩ := bindP_inv hB
    refine q_govF (va_runV (As := []) (rest := []) C (cr_copies hc _) (cwV 0 hts gX11_wisest_X11_copies rfl rfl rfl (by decide +kernel) ⟨Nat.le_of_ble_eq_true rfl, Nat.le_of_ble_eq_true rfl⟩) (q_preV hK hP (ci := 11) (q0 := 0) rfl rfl rfl (q_preF hN hK hP hD)) rfl rfl hl.1 rfl (lv_room (Nat.le_of_ble_eq_true rfl)) dX11_wisest_12 ⟨Nat.le_of_ble_eq_true rfl, Nat.le_of_ble_eq_true rfl⟩) hD hS hA (fun w1 H locs hw hP hD hS => ?_)
    subst hw
    refine lv_aload_n hx hb dX11_wisest_15 rfl (lv_at hl 0 rfl) ?_
    obtain ⟨q_, s4, hc, hB⟩ := bindI_inv hB
    refine q_goiF (va_runV (As := []) (rest := []) C (cr_casesNow hc _) (cwV 0 hts gX11_wisest_X11_casesNow rfl rfl rfl (by decide +kernel) ⟨Nat.le_of_ble_eq_true rfl, Nat.le_of_ble_eq_true rfl⟩) (q_preV hK hP (ci := 11) (q0 := 0) rfl rfl rfl (q_preF hN hK hP hD)) rfl rfl hl.1 rfl (lv_room (Nat.le_of_ble_eq_true rfl)) dX11_wisest_16 ⟨Nat.le_of_ble_eq_true rfl, Nat.le_of_ble_eq_true rfl⟩) hD hS hA (fun r5 w1 H locs hw hP hD hS => ?_)
    obtain ⟨hq_, hw⟩ := hw; subst hw; subst hq_
    refine lv_if_ne (tgt := 25) hx hb dX11_wisest_19 (by decide) (fun c6 => ?_) (fun c6 => ?_)
    · have hB := if_n hB c6
      refine lv_iconst (v := 0) hx hb dX11_wisest_25 (by decide) ?_
      refine lv_istore_n (lv' := [(2, .int 0), (0, .ref h), (1, .int x1)]) hx hb dX11_wisest_26 rfl hl (by decide) rfl (fun ls hl => ?_)
      refine lv_aload_n hx hb dX11_wisest_27 rfl (lv_at hl 1 rfl) ?_
      refine lv_iconst (v := 0) hx hb dX11_wisest_28 (by decide) ?_
      obtain ⟨q_, s7, hc, hB⟩ := bindI_inv hB
      refine q_goiF (va_runV (As := [.int 0]) (rest := []) C (cr_leftOf hc _) (cwV 1 hts gX11_wisest_X11_leftOf rfl rfl rfl (by decide +kernel) ⟨Nat.le_of_ble_eq_true rfl, Nat.le_of_ble_eq_true rfl⟩) (q_preV hK hP (ci := 11) (q0 := 0) rfl rfl rfl (q_preF hN hK hP hD)) rfl rfl hl.1 rfl (lv_room (Nat.le_of_ble_eq_true rfl)) dX11_wisest_29 ⟨Nat.le_of_ble_eq_true rfl, Nat.le_of_ble_eq_true rfl⟩) hD hS hA (fun r8 w1 H locs hw hP hD hS => ?_)
      obtain ⟨hq_, hw⟩ := hw; subst hw; subst hq_
      refine lv_istore_n (lv' := [(3, .int r8), (2, .int 0), (0, .ref h), (1, .int x1)]) hx hb dX11_wisest_32 rfl hl (by decide) rfl (fun ls hl => ?_)
      refine lv_iconst (v := 1) hx hb dX11_wisest_33 (by decide) ?_
      refine lv_istore (lv' := [(4, .int 1), (3, .int r8), (2, .int 0), (0, .ref h), (1, .int x1)]) hx hb dX11_wisest_34 hl (by decide) rfl (fun ls hl => ?_)
      exact br_wisest_36L fu _ _ _ _ _ hB p e s0 m below meth c A E H locs ls hP hD hS (lv_sub hl [3, 4, 2, 1, 0] rfl)
    · have hB := if_p hB c6
      refine lv_bipush (v := (-2)) hx hb dX11_wisest_22 (by decide) ?_
      exact q_iret C hr hlocks hK hP hD hS (Nat.le_of_ble_eq_true rfl) (Nat.le_of_ble_eq_true rfl) dX11_wisest_24 (by cases hB; exact ⟨rfl, rfl⟩)
  · have hB := if_p hB c2
    refine lv_iconst (v := (-1)) hx hb dX11_wisest_9 (by decide) ?_
    exact q_iret C hr hlocks hK hP hD hS (Nat.le_of_ble_eq_true rfl) (Nat.le_of_ble_eq_true rfl) dX11_wisest_10 (by cases hB; exact ⟨rfl, rfl⟩)
theorem cr_wisest {l : Launch} {dC : Nat → ClassId} {dI : Nat → Nat → Nat} {cB cI cJ cZ cS : ClassId} {h : Nat} {a : Nat → Nat} {r : Int32} {s' : RS} {s : RS} {x1 : Int32} (hB : r_wisest s x1 = some (r, s')) : CI l yX11_wisest wsX11_wisest ({ frames := 4, cells := 0, slots := 0, locals := 93 }) (dC, dI) (tysA cB cI cJ cZ cS) (mwS cB cI cJ cZ h a s) [.ref h, .int x1] (fun x u => x = r ∧ u = (mwS cB cI cJ cZ h a s')) :=
  CI_of (cc := cX11_wisest) (maxL := 6) (ret := (some .int)) (by decide) rfl (Nat.le_of_ble_eq_true rfl) (br_wisest _ _ hB)
