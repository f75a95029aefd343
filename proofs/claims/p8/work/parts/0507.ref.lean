theorem ggX11_yearsGo_X11_yearGoes : GoodIn wsX11_yearsGo wsX11_yearGoes := gi_sub (fun w h => List.mem_cons_of_mem _ (List.mem_append_left _ (List.mem_append_right _ h))) gd_wsX11_yearGoes
set_option maxRecDepth 20000 in
theorem gX11_yearsGo_X11_yearGoes : GoodIn wsX11_yearsGo (wsV RX11 346 RX11 yX11_yearGoes wsX11_yearGoes) := goodIn_app (goodIn_r _ [1, 2, 3, 4] (by decide +kernel) (by decide +kernel)) ggX11_yearsGo_X11_yearGoes
theorem dX11_yearsGo_0 : decode cX11_yearsGo 0 = .ok (.iconst 0, 1) := dc1_3 (by decide +kernel)
theorem dX11_yearsGo_1 : decode cX11_yearsGo 1 = .ok (.istore_n 2, 1) := dc1_61 (by decide +kernel)
theorem dX11_yearsGo_2 : decode cX11_yearsGo 2 = .ok (.iload_n 2, 1) := dc1_28 (by decide +kernel)
theorem dX11_yearsGo_3 : decode cX11_yearsGo 3 = .ok (.iload_n 1, 1) := dc1_27 (by decide +kernel)
theorem dX11_yearsGo_4 : decode cX11_yearsGo 4 = .ok (.if_icmp .ge 13, 3) := dcs_162 (n := 13) (by decide +kernel)
theorem dX11_yearsGo_7 : decode cX11_yearsGo 7 = .ok (.aload_n 0, 1) := dc1_42 (by decide +kernel)
theorem dX11_yearsGo_8 : decode cX11_yearsGo 8 = .ok (.invokevirtual 346, 3) := dcw_182 (by decide +kernel)
theorem dX11_yearsGo_11 : decode cX11_yearsGo 11 = .ok (.iinc 2 1, 3) := dc_iinc (m := 1) (by decide +kernel)
theorem dX11_yearsGo_14 : decode cX11_yearsGo 14 = .ok (.goto (-12), 3) := dcs_167 (n := 65524) (by decide +kernel)
theorem dX11_yearsGo_17 : decode cX11_yearsGo 17 = .ok (.return_, 1) := dc1_177 (by decide +kernel)
theorem ggX11_wave_X11_isWave : GoodIn wsX11_wave wsX11_isWave := gi_sub (fun w h => List.mem_cons_of_mem _ (List.mem_append_left _ (List.mem_append_right _ (List.mem_append_left _ h)))) gd_wsX11_isWave
set_option maxRecDepth 20000 in
theorem gX11_wave_X11_isWave : GoodIn wsX11_wave (wsV RX11 349 RX11 yX11_isWave wsX11_isWave) := goodIn_app (goodIn_r _ [2, 3, 4, 5] (by decide +kernel) (by decide +kernel)) ggX11_wave_X11_isWave
theorem ggX11_wave_X11_copies : GoodIn wsX11_wave wsX11_copies := gi_sub (fun w h => List.mem_cons_of_mem _ (List.mem_append_left _ (List.mem_append_right _ (List.mem_append_right _ (List.mem_append_left _ h))))) gd_wsX11_copies
set_option maxRecDepth 20000 in
theorem gX11_wave_X11_copies : GoodIn wsX11_wave (wsV RX11 352 RX11 yX11_copies wsX11_copies) := goodIn_app (goodIn_r _ [6, 7, 8, 5] (by decide +kernel) (by decide +kernel)) ggX11_wave_X11_copies
theorem ggX11_wave_X11_mayAt : GoodIn wsX11_wave wsX11_mayAt := gi_sub (fun w h => List.mem_cons_of_mem _ (List.mem_append_left _ (List.mem_append_right _ (List.mem_append_right _ (List.mem_append_right _ (List.mem_append_left _ h)))))) gd_wsX11_mayAt
set_option maxRecDepth 20000 in
theorem gX11_wave_X11_mayAt : GoodIn wsX11_wave (wsV RX11 309 RX11 yX11_mayAt wsX11_mayAt) := goodIn_app (goodIn_r _ [9, 10, 11, 5] (by decide +kernel) (by decide +kernel)) ggX11_wave_X11_mayAt
theorem ggX11_wave_X11_thereAt : GoodIn wsX11_wave wsX11_thereAt := gi_sub (fun w h => List.mem_cons_of_mem _ (List.mem_append_left _ (List.mem_append_right _ (List.mem_append_right _ (List.mem_append_right _ (List.mem_append_right _ (List.mem_append_left _ h))))))) gd_wsX11_thereAt
set_option maxRecDepth 20000 in
theorem gX11_wave_X11_thereAt : GoodIn wsX11_wave (wsV RX11 303 RX11 yX11_thereAt wsX11_thereAt) := goodIn_app (goodIn_r _ [12, 13, 14, 5] (by decide +kernel) (by decide +kernel)) ggX11_wave_X11_thereAt
theorem ggX11_wave_X11_shiftsOf : GoodIn wsX11_wave wsX11_shiftsOf := gi_sub (fun w h => List.mem_cons_of_mem _ (List.mem_append_left _ (List.mem_append_right _ (List.mem_append_right _ (List.mem_append_right _ (List.mem_append_right _ (List.mem_append_right _ h))))))) gd_wsX11_shiftsOf
set_option maxRecDepth 20000 in
theorem gX11_wave_X11_shiftsOf : GoodIn wsX11_wave (wsV RX11 343 RX11 yX11_shiftsOf wsX11_shiftsOf) := goodIn_app (goodIn_r _ [15, 16, 17, 5] (by decide +kernel) (by decide +kernel)) ggX11_wave_X11_shiftsOf
theorem dX11_wave_0 : decode cX11_wave 0 = .ok (.aload_n 0, 1) := dc1_42 (by decide +kernel)
theorem dX11_wave_1 : decode cX11_wave 1 = .ok (.iload_n 1, 1) := dc1_27 (by decide +kernel)
theorem dX11_wave_2 : decode cX11_wave 2 = .ok (.invokevirtual 349, 3) := dcw_182 (by decide +kernel)
theorem dX11_wave_5 : decode cX11_wave 5 = .ok (.ifCond .ne 5, 3) := dcs_154 (n := 5) (by decide +kernel)
theorem dX11_wave_8 : decode cX11_wave 8 = .ok (.iconst (-1), 1) := dc1_2 (by decide +kernel)
theorem dX11_wave_9 : decode cX11_wave 9 = .ok (.ireturn, 1) := dc1_172 (by decide +kernel)
theorem dX11_wave_10 : decode cX11_wave 10 = .ok (.aload_n 0, 1) := dc1_42 (by decide +kernel)
theorem dX11_wave_11 : decode cX11_wave 11 = .ok (.invokevirtual 352, 3) := dcw_182 (by decide +kernel)
theorem dX11_wave_14 : decode cX11_wave 14 = .ok (.iload_n 2, 1) := dc1_28 (by decide +kernel)
theorem dX11_wave_15 : decode cX11_wave 15 = .ok (.tableswitch 81 0 5 #[37, 43, 52, 59, 69, 75], 37) := by decide +kernel
theorem dX11_wave_52 : decode cX11_wave 52 = .ok (.aload_n 0, 1) := dc1_42 (by decide +kernel)
theorem dX11_wave_53 : decode cX11_wave 53 = .ok (.iload_n 1, 1) := dc1_27 (by decide +kernel)
theorem dX11_wave_54 : decode cX11_wave 54 = .ok (.invokevirtual 309, 3) := dcw_182 (by decide +kernel)
theorem dX11_wave_57 : decode cX11_wave 57 = .ok (.ireturn, 1) := dc1_172 (by decide +kernel)
theorem dX11_wave_58 : decode cX11_wave 58 = .ok (.aload_n 0, 1) := dc1_42 (by decide +kernel)
theorem dX11_wave_59 : decode cX11_wave 59 = .ok (.getfield 101, 3) := dcw_180 (by decide +kernel)
theorem dX11_wave_62 : decode cX11_wave 62 = .ok (.iconst 5, 1) := dc1_8 (by decide +kernel)
theorem dX11_wave_63 : decode cX11_wave 63 = .ok (.iload_n 1, 1) := dc1_27 (by decide +kernel)
theorem dX11_wave_64 : decode cX11_wave 64 = .ok (.iadd, 1) := dc1_96 (by decide +kernel)
theorem dX11_wave_65 : decode cX11_wave 65 = .ok (.iaload, 1) := dc1_46 (by decide +kernel)
theorem dX11_wave_66 : decode cX11_wave 66 = .ok (.ireturn, 1) := dc1_172 (by decide +kernel)
theorem dX11_wave_67 : decode cX11_wave 67 = .ok (.aload_n 0, 1) := dc1_42 (by decide +kernel)
theorem dX11_wave_68 : decode cX11_wave 68 = .ok (.getfield 101, 3) := dcw_180 (by decide +kernel)
theorem dX11_wave_71 : decode cX11_wave 71 = .ok (.iload_n 1, 1) := dc1_27 (by decide +kernel)
theorem dX11_wave_72 : decode cX11_wave 72 = .ok (.iaload, 1) := dc1_46 (by decide +kernel)
theorem dX11_wave_73 : decode cX11_wave 73 = .ok (.ireturn, 1) := dc1_172 (by decide +kernel)
theorem dX11_wave_74 : decode cX11_wave 74 = .ok (.aload_n 0, 1) := dc1_42 (by decide +kernel)
theorem dX11_wave_75 : decode cX11_wave 75 = .ok (.getfield 101, 3) := dcw_180 (by decide +kernel)
theorem dX11_wave_78 : decode cX11_wave 78 = .ok (.bipush 10, 2) := dcb_16 (n := 10) (by decide +kernel)
theorem dX11_wave_80 : decode cX11_wave 80 = .ok (.iload_n 1, 1) := dc1_27 (by decide +kernel)
theorem dX11_wave_81 : decode cX11_wave 81 = .ok (.iadd, 1) := dc1_96 (by decide +kernel)
theorem dX11_wave_82 : decode cX11_wave 82 = .ok (.iaload, 1) := dc1_46 (by decide +kernel)
theorem dX11_wave_83 : decode cX11_wave 83 = .ok (.ireturn, 1) := dc1_172 (by decide +kernel)
theorem dX11_wave_84 : decode cX11_wave 84 = .ok (.aload_n 0, 1) := dc1_42 (by decide +kernel)
theorem dX11_wave_85 : decode cX11_wave 85 = .ok (.iload_n 1, 1) := dc1_27 (by decide +kernel)
theorem dX11_wave_86 : decode cX11_wave 86 = .ok (.invokevirtual 303, 3) := dcw_182 (by decide +kernel)
theorem dX11_wave_89 : decode cX11_wave 89 = .ok (.ireturn, 1) := dc1_172 (by decide +kernel)
theorem dX11_wave_90 : decode cX11_wave 90 = .ok (.aload_n 0, 1) := dc1_42 (by decide +kernel)
theorem dX11_wave_91 : decode cX11_wave 91 = .ok (.iload_n 1, 1) := dc1_27 (by decide +kernel)
theorem dX11_wave_92 : decode cX11_wave 92 = .ok (.invokevirtual 343, 3) := dcw_182 (by decide +kernel)
theorem dX11_wave_95 : decode cX11_wave 95 = .ok (.ireturn, 1) := dc1_172 (by decide +kernel)
theorem dX11_wave_96 : decode cX11_wave 96 = .ok (.iconst (-1), 1) := dc1_2 (by decide +kernel)
theorem dX11_wave_97 : decode cX11_wave 97 = .ok (.ireturn, 1) := dc1_172 (by decide +kernel)
theorem ggX11_odds_X11_isWave : GoodIn wsX11_odds wsX11_isWave := gi_sub (fun w h => List.mem_cons_of_mem _ (List.mem_append_left _ (List.mem_append_right _ (List.mem_append_left _ h)))) gd_wsX11_isWave
set_option maxRecDepth 20000 in
theorem gX11_odds_X11_isWave : GoodIn wsX11_odds (wsV RX11 349 RX11 yX11_isWave wsX11_isWave) := goodIn_app (goodIn_r _ [1, 2, 3, 4] (by decide +kernel) (by decide +kernel)) ggX11_odds_X11_isWave
theorem ggX11_odds_X11_isThing : GoodIn wsX11_odds wsX11_isThing := gi_sub (fun w h => List.mem_cons_of_mem _ (List.mem_append_left _ (List.mem_append_right _ (List.mem_append_right _ (List.mem_append_left _ h))))) gd_wsX11_isThing
set_option maxRecDepth 20000 in
theorem gX11_odds_X11_isThing : GoodIn wsX11_odds (va_wsS RX11 355 yX11_isThing wsX11_isThing) := goodIn_app (goodIn_of _ (by decide +kernel)) ggX11_odds_X11_isThing
theorem ggX11_odds_X11_oddsAt : GoodIn wsX11_odds wsX11_oddsAt := gi_sub (fun w h => List.mem_cons_of_mem _ (List.mem_append_left _ (List.mem_append_right _ (List.mem_append_right _ (List.mem_append_right _ h))))) gd_wsX11_oddsAt
set_option maxRecDepth 20000 in
theorem gX11_odds_X11_oddsAt : GoodIn wsX11_odds (wsV RX11 297 RX11 yX11_oddsAt wsX11_oddsAt) := goodIn_app (goodIn_r _ [7, 8, 9, 4] (by decide +kernel) (by decide +kernel)) ggX11_odds_X11_oddsAt
theorem dX11_odds_0 : decode cX11_odds 0 = .ok (.aload_n 0, 1) := dc1_42 (by decide +kernel)
theorem dX11_odds_1 : decode cX11_odds 1 = .ok (.iload_n 1, 1) := dc1_27 (by decide +kernel)
theorem dX11_odds_2 : decode cX11_odds 2 = .ok (.invokevirtual 349, 3) := dcw_182 (by decide +kernel)
theorem dX11_odds_5 : decode cX11_odds 5 = .ok (.ifCond .eq 19, 3) := dcs_153 (n := 19) (by decide +kernel)
theorem dX11_odds_8 : decode cX11_odds 8 = .ok (.iload_n 2, 1) := dc1_28 (by decide +kernel)
theorem dX11_odds_9 : decode cX11_odds 9 = .ok (.invokestatic 355, 3) := dcw_184 (by decide +kernel)
theorem dX11_odds_12 : decode cX11_odds 12 = .ok (.ifCond .eq 12, 3) := dcs_153 (n := 12) (by decide +kernel)
theorem dX11_odds_15 : decode cX11_odds 15 = .ok (.aload_n 0, 1) := dc1_42 (by decide +kernel)
theorem dX11_odds_16 : decode cX11_odds 16 = .ok (.iload_n 1, 1) := dc1_27 (by decide +kernel)
theorem dX11_odds_17 : decode cX11_odds 17 = .ok (.iload_n 2, 1) := dc1_28 (by decide +kernel)
theorem dX11_odds_18 : decode cX11_odds 18 = .ok (.invokevirtual 297, 3) := dcw_182 (by decide +kernel)
theorem dX11_odds_21 : decode cX11_odds 21 = .ok (.goto 4, 3) := dcs_167 (n := 4) (by decide +kernel)
theorem dX11_odds_24 : decode cX11_odds 24 = .ok (.iconst (-1), 1) := dc1_2 (by decide +kernel)
theorem dX11_odds_25 : decode cX11_odds 25 = .ok (.ireturn, 1) := dc1_172 (by decide +kernel)
theorem ggX11_party_X11_isParty : GoodIn wsX11_party wsX11_isParty := gi_sub (fun w h => List.mem_cons_of_mem _ (List.mem_append_left _ (List.mem_append_right _ (List.mem_append_left _ h)))) gd_wsX11_isParty
set_option maxRecDepth 20000 in
theorem gX11_party_X11_isParty : GoodIn wsX11_party (wsV RX11 358 RX11 yX11_isParty wsX11_isParty) := goodIn_app (goodIn_r _ [5, 6, 7, 8] (by decide +kernel) (by decide +kernel)) ggX11_party_X11_isParty
theorem ggX11_party_X11_copies : GoodIn wsX11_party wsX11_copies := gi_sub (fun w h => List.mem_cons_of_mem _ (List.mem_append_left _ (List.mem_append_right _ (List.mem_append_right _ (List.mem_append_left _ h))))) gd_wsX11_copies
set_option maxRecDepth 20000 in
theorem gX11_party_X11_copies : GoodIn wsX11_party (wsV RX11 352 RX11 yX11_copies wsX11_copies) := goodIn_app (goodIn_r _ [9, 10, 11, 8] (by decide +kernel) (by decide +kernel)) ggX11_party_X11_copies
theorem ggX11_party_X11_faresOf : GoodIn wsX11_party wsX11_faresOf := gi_sub (fun w h => List.mem_cons_of_mem _ (List.mem_append_left _ (List.mem_append_right _ (List.mem_append_right _ (List.mem_append_right _ (List.mem_append_left _ h)))))) gd_wsX11_faresOf
set_option maxRecDepth 20000 in
theorem gX11_party_X11_faresOf : GoodIn wsX11_party (wsV RX11 339 RX11 yX11_faresOf wsX11_faresOf) := goodIn_app (goodIn_r _ [12, 13, 14, 8] (by decide +kernel) (by decide +kernel)) ggX11_party_X11_faresOf
theorem ggX11_party_X11_doesDare : GoodIn wsX11_party wsX11_doesDare := gi_sub (fun w h => List.mem_cons_of_mem _ (List.mem_append_left _ (List.mem_append_right _ (List.mem_append_right _ (List.mem_append_right _ (List.mem_append_right _ h)))))) gd_wsX11_doesDare
set_option maxRecDepth 20000 in
theorem gX11_party_X11_doesDare : GoodIn wsX11_party (wsV RX11 361 RX11 yX11_doesDare wsX11_doesDare) := goodIn_app (goodIn_r _ [15, 16, 17, 8] (by decide +kernel) (by decide +kernel)) ggX11_party_X11_doesDare
theorem dX11_party_0 : decode cX11_party 0 = .ok (.aload_n 0, 1) := dc1_42 (by decide +kernel)
theorem dX11_party_1 : decode cX11_party 1 = .ok (.iload_n 1, 1) := dc1_27 (by decide +kernel)
theorem dX11_party_2 : decode cX11_party 2 = .ok (.invokevirtual 358, 3) := dcw_182 (by decide +kernel)
theorem dX11_party_5 : decode cX11_party 5 = .ok (.ifCond .ne 5, 3) := dcs_154 (n := 5) (by decide +kernel)
theorem dX11_party_8 : decode cX11_party 8 = .ok (.iconst (-1), 1) := dc1_2 (by decide +kernel)
theorem dX11_party_9 : decode cX11_party 9 = .ok (.ireturn, 1) := dc1_172 (by decide +kernel)
theorem dX11_party_10 : decode cX11_party 10 = .ok (.aload_n 0, 1) := dc1_42 (by decide +kernel)
theorem dX11_party_11 : decode cX11_party 11 = .ok (.invokevirtual 352, 3) := dcw_182 (by decide +kernel)
theorem dX11_party_14 : decode cX11_party 14 = .ok (.iload_n 2, 1) := dc1_28 (by decide +kernel)
theorem dX11_party_15 : decode cX11_party 15 = .ok (.tableswitch 107 0 5 #[37, 52, 67, 77, 87, 93], 37) := by decide +kernel
theorem dX11_party_52 : decode cX11_party 52 = .ok (.aload_n 0, 1) := dc1_42 (by decide +kernel)
theorem dX11_party_53 : decode cX11_party 53 = .ok (.getfield 52, 3) := dcw_180 (by decide +kernel)
theorem dX11_party_56 : decode cX11_party 56 = .ok (.bipush 6, 2) := dcb_16 (n := 6) (by decide +kernel)
theorem dX11_party_58 : decode cX11_party 58 = .ok (.aload_n 0, 1) := dc1_42 (by decide +kernel)
theorem dX11_party_59 : decode cX11_party 59 = .ok (.getfield 215, 3) := dcw_180 (by decide +kernel)
theorem dX11_party_62 : decode cX11_party 62 = .ok (.imul, 1) := dc1_104 (by decide +kernel)
theorem dX11_party_63 : decode cX11_party 63 = .ok (.iload_n 1, 1) := dc1_27 (by decide +kernel)
theorem dX11_party_64 : decode cX11_party 64 = .ok (.iadd, 1) := dc1_96 (by decide +kernel)
theorem dX11_party_65 : decode cX11_party 65 = .ok (.iaload, 1) := dc1_46 (by decide +kernel)
theorem dX11_party_66 : decode cX11_party 66 = .ok (.ireturn, 1) := dc1_172 (by decide +kernel)
theorem dX11_party_67 : decode cX11_party 67 = .ok (.aload_n 0, 1) := dc1_42 (by decide +kernel)
theorem dX11_party_68 : decode cX11_party 68 = .ok (.getfield 55, 3) := dcw_180 (by decide +kernel)
theorem dX11_party_71 : decode cX11_party 71 = .ok (.bipush 6, 2) := dcb_16 (n := 6) (by decide +kernel)
theorem dX11_party_73 : decode cX11_party 73 = .ok (.aload_n 0, 1) := dc1_42 (by decide +kernel)
theorem dX11_party_74 : decode cX11_party 74 = .ok (.getfield 215, 3) := dcw_180 (by decide +kernel)
theorem dX11_party_77 : decode cX11_party 77 = .ok (.imul, 1) := dc1_104 (by decide +kernel)
theorem dX11_party_78 : decode cX11_party 78 = .ok (.iload_n 1, 1) := dc1_27 (by decide +kernel)
theorem dX11_party_79 : decode cX11_party 79 = .ok (.iadd, 1) := dc1_96 (by decide +kernel)
theorem dX11_party_80 : decode cX11_party 80 = .ok (.iaload, 1) := dc1_46 (by decide +kernel)
theorem dX11_party_81 : decode cX11_party 81 = .ok (.ireturn, 1) := dc1_172 (by decide +kernel)
theorem dX11_party_82 : decode cX11_party 82 = .ok (.aload_n 0, 1) := dc1_42 (by decide +kernel)
theorem dX11_party_83 : decode cX11_party 83 = .ok (.getfield 101, 3) := dcw_180 (by decide +kernel)
theorem dX11_party_86 : decode cX11_party 86 = .ok (.bipush 15, 2) := dcb_16 (n := 15) (by decide +kernel)
theorem dX11_party_88 : decode cX11_party 88 = .ok (.iload_n 1, 1) := dc1_27 (by decide +kernel)
theorem dX11_party_89 : decode cX11_party 89 = .ok (.iadd, 1) := dc1_96 (by decide +kernel)
theorem dX11_party_90 : decode cX11_party 90 = .ok (.iaload, 1) := dc1_46 (by decide +kernel)
theorem dX11_party_91 : decode cX11_party 91 = .ok (.ireturn, 1) := dc1_172 (by decide +kernel)
theorem dX11_party_92 : decode cX11_party 92 = .ok (.aload_n 0, 1) := dc1_42 (by decide +kernel)
theorem dX11_party_93 : decode cX11_party 93 = .ok (.getfield 101, 3) := dcw_180 (by decide +kernel)
theorem dX11_party_96 : decode cX11_party 96 = .ok (.bipush 21, 2) := dcb_16 (n := 21) (by decide +kernel)
theorem dX11_party_98 : decode cX11_party 98 = .ok (.iload_n 1, 1) := dc1_27 (by decide +kernel)
theorem dX11_party_99 : decode cX11_party 99 = .ok (.iadd, 1) := dc1_96 (by decide +kernel)
theorem dX11_party_100 : decode cX11_party 100 = .ok (.iaload, 1) := dc1_46 (by decide +kernel)
theorem dX11_party_101 : decode cX11_party 101 = .ok (.ireturn, 1) := dc1_172 (by decide +kernel)
theorem dX11_party_102 : decode cX11_party 102 = .ok (.aload_n 0, 1) := dc1_42 (by decide +kernel)
theorem dX11_party_103 : decode cX11_party 103 = .ok (.iload_n 1, 1) := dc1_27 (by decide +kernel)
theorem dX11_party_104 : decode cX11_party 104 = .ok (.invokevirtual 339, 3) := dcw_182 (by decide +kernel)
theorem dX11_party_107 : decode cX11_party 107 = .ok (.ireturn, 1) := dc1_172 (by decide +kernel)
theorem dX11_party_108 : decode cX11_party 108 = .ok (.aload_n 0, 1) := dc1_42 (by decide +kernel)
theorem dX11_party_109 : decode cX11_party 109 = .ok (.iload_n 1, 1) := dc1_27 (by decide +kernel)
theorem dX11_party_110 : decode cX11_party 110 = .ok (.invokevirtual 361, 3) := dcw_182 (by decide +kernel)
theorem dX11_party_113 : decode cX11_party 113 = .ok (.ifCond .eq 7, 3) := dcs_153 (n := 7) (by decide +kernel)
theorem dX11_party_116 : decode cX11_party 116 = .ok (.iconst 1, 1) := dc1_4 (by decide +kernel)
theorem dX11_party_117 : decode cX11_party 117 = .ok (.goto 4, 3) := dcs_167 (n := 4) (by decide +kernel)
theorem dX11_party_120 : decode cX11_party 120 = .ok (.iconst 0, 1) := dc1_3 (by decide +kernel)
theorem dX11_party_121 : decode cX11_party 121 = .ok (.ireturn, 1) := dc1_172 (by decide +kernel)
theorem dX11_party_122 : decode cX11_party 122 = .ok (.iconst (-1), 1) := dc1_2 (by decide +kernel)
theorem dX11_party_123 : decode cX11_party 123 = .ok (.ireturn, 1) := dc1_172 (by decide +kernel)
theorem ggX11_needs_X11_isParty : GoodIn wsX11_needs wsX11_isParty := gi_sub (fun w h => List.mem_cons_of_mem _ (List.mem_append_left _ (List.mem_append_right _ (List.mem_append_left _ h)))) gd_wsX11_isParty
set_option maxRecDepth 20000 in
theorem gX11_needs_X11_isParty : GoodIn wsX11_needs (wsV RX11 358 RX11 yX11_isParty wsX11_isParty) := goodIn_app (goodIn_r _ [1, 2, 3, 4] (by decide +kernel) (by decide +kernel)) ggX11_needs_X11_isParty
theorem ggX11_needs_X11_isWave : GoodIn wsX11_needs wsX11_isWave := gi_sub (fun w h => List.mem_cons_of_mem _ (List.mem_append_left _ (List.mem_append_right _ (List.mem_append_right _ (List.mem_append_left _ h))))) gd_wsX11_isWave
set_option maxRecDepth 20000 in
theorem gX11_needs_X11_isWave : GoodIn wsX11_needs (wsV RX11 349 RX11 yX11_isWave wsX11_isWave) := goodIn_app (goodIn_r _ [5, 6, 7, 4] (by decide +kernel) (by decide +kernel)) ggX11_needs_X11_isWave
theorem ggX11_needs_X11_isThing : GoodIn wsX11_needs wsX11_isThing := gi_sub (fun w h => List.mem_cons_of_mem _ (List.mem_append_left _ (List.mem_append_right _ (List.mem_append_right _ (List.mem_append_right _ (List.mem_append_left _ h)))))) gd_wsX11_isThing
set_option maxRecDepth 20000 in
theorem gX11_needs_X11_isThing : GoodIn wsX11_needs (va_wsS RX11 355 yX11_isThing wsX11_isThing) := goodIn_app (goodIn_of _ (by decide +kernel)) ggX11_needs_X11_isThing
theorem ggX11_needs_X11_copies : GoodIn wsX11_needs wsX11_copies := gi_sub (fun w h => List.mem_cons_of_mem _ (List.mem_append_left _ (List.mem_append_right _ (List.mem_append_right _ (List.mem_append_right _ (List.mem_append_right _ (List.mem_append_left _ h))))))) gd_wsX11_copies
set_option maxRecDepth 20000 in
theorem gX11_needs_X11_copies : GoodIn wsX11_needs (wsV RX11 352 RX11 yX11_copies wsX11_copies) := goodIn_app (goodIn_r _ [10, 11, 12, 4] (by decide +kernel) (by decide +kernel)) ggX11_needs_X11_copies
theorem ggX11_needs_X11_needsOf : GoodIn wsX11_needs wsX11_needsOf := gi_sub (fun w h => List.mem_cons_of_mem _ (List.mem_append_left _ (List.mem_append_right _ (List.mem_append_right _ (List.mem_append_right _ (List.mem_append_right _ (List.mem_append_right _ h))))))) gd_wsX11_needsOf
set_option maxRecDepth 20000 in
theorem gX11_needs_X11_needsOf : GoodIn wsX11_needs (wsV RX11 327 RX11 yX11_needsOf wsX11_needsOf) := goodIn_app (goodIn_r _ [13, 14, 15, 4] (by decide +kernel) (by decide +kernel)) ggX11_needs_X11_needsOf
theorem dX11_needs_0 : decode cX11_needs 0 = .ok (.aload_n 0, 1) := dc1_42 (by decide +kernel)
theorem dX11_needs_1 : decode cX11_needs 1 = .ok (.iload_n 1, 1) := dc1_27 (by decide +kernel)
theorem dX11_needs_2 : decode cX11_needs 2 = .ok (.invokevirtual 358, 3) := dcw_182 (by decide +kernel)
theorem dX11_needs_5 : decode cX11_needs 5 = .ok (.ifCond .eq 18, 3) := dcs_153 (n := 18) (by decide +kernel)
theorem dX11_needs_8 : decode cX11_needs 8 = .ok (.aload_n 0, 1) := dc1_42 (by decide +kernel)
theorem dX11_needs_9 : decode cX11_needs 9 = .ok (.iload_n 2, 1) := dc1_28 (by decide +kernel)
theorem dX11_needs_10 : decode cX11_needs 10 = .ok (.invokevirtual 349, 3) := dcw_182 (by decide +kernel)
theorem dX11_needs_13 : decode cX11_needs 13 = .ok (.ifCond .eq 10, 3) := dcs_153 (n := 10) (by decide +kernel)
theorem dX11_needs_16 : decode cX11_needs 16 = .ok (.iload_n 3, 1) := dc1_29 (by decide +kernel)
theorem dX11_needs_17 : decode cX11_needs 17 = .ok (.invokestatic 355, 3) := dcw_184 (by decide +kernel)
theorem dX11_needs_20 : decode cX11_needs 20 = .ok (.ifCond .ne 5, 3) := dcs_154 (n := 5) (by decide +kernel)
theorem dX11_needs_23 : decode cX11_needs 23 = .ok (.iconst (-1), 1) := dc1_2 (by decide +kernel)
theorem dX11_needs_24 : decode cX11_needs 24 = .ok (.ireturn, 1) := dc1_172 (by decide +kernel)
theorem dX11_needs_25 : decode cX11_needs 25 = .ok (.aload_n 0, 1) := dc1_42 (by decide +kernel)
theorem dX11_needs_26 : decode cX11_needs 26 = .ok (.invokevirtual 352, 3) := dcw_182 (by decide +kernel)
theorem dX11_needs_29 : decode cX11_needs 29 = .ok (.aload_n 0, 1) := dc1_42 (by decide +kernel)
theorem dX11_needs_30 : decode cX11_needs 30 = .ok (.iload_n 1, 1) := dc1_27 (by decide +kernel)
theorem dX11_needs_31 : decode cX11_needs 31 = .ok (.iload_n 2, 1) := dc1_28 (by decide +kernel)
theorem dX11_needs_32 : decode cX11_needs 32 = .ok (.iload_n 3, 1) := dc1_29 (by decide +kernel)
theorem dX11_needs_33 : decode cX11_needs 33 = .ok (.invokevirtual 327, 3) := dcw_182 (by decide +kernel)
theorem dX11_needs_36 : decode cX11_needs 36 = .ok (.ireturn, 1) := dc1_172 (by decide +kernel)
theorem ggX11_records_X11_keepsRow : GoodIn wsX11_records wsX11_keepsRow := gi_sub (fun w h => List.mem_cons_of_mem _ (List.mem_append_left _ (List.mem_append_right _ h))) gd_wsX11_keepsRow
set_option maxRecDepth 20000 in
theorem gX11_records_X11_keepsRow : GoodIn wsX11_records (wsV RX11 145 RX11 yX11_keepsRow wsX11_keepsRow) := goodIn_app (goodIn_r _ [4, 5, 6, 7] (by decide +kernel) (by decide +kernel)) ggX11_records_X11_keepsRow
theorem dX11_records_0 : decode cX11_records 0 = .ok (.aload_n 0, 1) := dc1_42 (by decide +kernel)
theorem dX11_records_1 : decode cX11_records 1 = .ok (.getfield 230, 3) := dcw_180 (by decide +kernel)
theorem dX11_records_4 : decode cX11_records 4 = .ok (.bipush 40, 2) := dcb_16 (n := 40) (by decide +kernel)
theorem dX11_records_6 : decode cX11_records 6 = .ok (.if_icmp .ne 43, 3) := dcs_160 (n := 43) (by decide +kernel)
theorem dX11_records_9 : decode cX11_records 9 = .ok (.iconst 0, 1) := dc1_3 (by decide +kernel)
theorem dX11_records_10 : decode cX11_records 10 = .ok (.istore_n 1, 1) := dc1_60 (by decide +kernel)
theorem dX11_records_11 : decode cX11_records 11 = .ok (.iload_n 1, 1) := dc1_27 (by decide +kernel)
theorem dX11_records_12 : decode cX11_records 12 = .ok (.sipush 1131, 3) := dcs_17 (n := 1131) (by decide +kernel)
theorem dX11_records_15 : decode cX11_records 15 = .ok (.if_icmp .ge 24, 3) := dcs_162 (n := 24) (by decide +kernel)
theorem dX11_records_18 : decode cX11_records 18 = .ok (.aload_n 0, 1) := dc1_42 (by decide +kernel)
theorem dX11_records_19 : decode cX11_records 19 = .ok (.getfield 110, 3) := dcw_180 (by decide +kernel)
theorem dX11_records_22 : decode cX11_records 22 = .ok (.iload_n 1, 1) := dc1_27 (by decide +kernel)
theorem dX11_records_23 : decode cX11_records 23 = .ok (.aload_n 0, 1) := dc1_42 (by decide +kernel)
theorem dX11_records_24 : decode cX11_records 24 = .ok (.getfield 110, 3) := dcw_180 (by decide +kernel)
theorem dX11_records_27 : decode cX11_records 27 = .ok (.iload_n 1, 1) := dc1_27 (by decide +kernel)
theorem dX11_records_28 : decode cX11_records 28 = .ok (.bipush 29, 2) := dcb_16 (n := 29) (by decide +kernel)
theorem dX11_records_30 : decode cX11_records 30 = .ok (.iadd, 1) := dc1_96 (by decide +kernel)
theorem dX11_records_31 : decode cX11_records 31 = .ok (.iaload, 1) := dc1_46 (by decide +kernel)
theorem dX11_records_32 : decode cX11_records 32 = .ok (.iastore, 1) := dc1_79 (by decide +kernel)
theorem dX11_records_33 : decode cX11_records 33 = .ok (.iinc 1 1, 3) := dc_iinc (m := 1) (by decide +kernel)
theorem dX11_records_36 : decode cX11_records 36 = .ok (.goto (-25), 3) := dcs_167 (n := 65511) (by decide +kernel)
theorem dX11_records_39 : decode cX11_records 39 = .ok (.aload_n 0, 1) := dc1_42 (by decide +kernel)
theorem dX11_records_40 : decode cX11_records 40 = .ok (.dup, 1) := dc1_89 (by decide +kernel)
theorem dX11_records_41 : decode cX11_records 41 = .ok (.getfield 230, 3) := dcw_180 (by decide +kernel)
theorem dX11_records_44 : decode cX11_records 44 = .ok (.iconst 1, 1) := dc1_4 (by decide +kernel)
theorem dX11_records_45 : decode cX11_records 45 = .ok (.isub, 1) := dc1_100 (by decide +kernel)
theorem dX11_records_46 : decode cX11_records 46 = .ok (.putfield 230, 3) := dcw_181 (by decide +kernel)
theorem dX11_records_49 : decode cX11_records 49 = .ok (.iconst 0, 1) := dc1_3 (by decide +kernel)
theorem dX11_records_50 : decode cX11_records 50 = .ok (.istore_n 1, 1) := dc1_60 (by decide +kernel)
theorem dX11_records_51 : decode cX11_records 51 = .ok (.iload_n 1, 1) := dc1_27 (by decide +kernel)
theorem dX11_records_52 : decode cX11_records 52 = .ok (.bipush 29, 2) := dcb_16 (n := 29) (by decide +kernel)
theorem dX11_records_54 : decode cX11_records 54 = .ok (.if_icmp .ge 29, 3) := dcs_162 (n := 29) (by decide +kernel)
theorem dX11_records_57 : decode cX11_records 57 = .ok (.aload_n 0, 1) := dc1_42 (by decide +kernel)
theorem dX11_records_58 : decode cX11_records 58 = .ok (.getfield 110, 3) := dcw_180 (by decide +kernel)
theorem dX11_records_61 : decode cX11_records 61 = .ok (.bipush 29, 2) := dcb_16 (n := 29) (by decide +kernel)
theorem dX11_records_63 : decode cX11_records 63 = .ok (.aload_n 0, 1) := dc1_42 (by decide +kernel)
theorem dX11_records_64 : decode cX11_records 64 = .ok (.getfield 230, 3) := dcw_180 (by decide +kernel)
theorem dX11_records_67 : decode cX11_records 67 = .ok (.imul, 1) := dc1_104 (by decide +kernel)
theorem dX11_records_68 : decode cX11_records 68 = .ok (.iload_n 1, 1) := dc1_27 (by decide +kernel)
theorem dX11_records_69 : decode cX11_records 69 = .ok (.iadd, 1) := dc1_96 (by decide +kernel)
theorem dX11_records_70 : decode cX11_records 70 = .ok (.aload_n 0, 1) := dc1_42 (by decide +kernel)
theorem dX11_records_71 : decode cX11_records 71 = .ok (.getfield 98, 3) := dcw_180 (by decide +kernel)
theorem dX11_records_74 : decode cX11_records 74 = .ok (.iload_n 1, 1) := dc1_27 (by decide +kernel)
theorem dX11_records_75 : decode cX11_records 75 = .ok (.iaload, 1) := dc1_46 (by decide +kernel)
theorem dX11_records_76 : decode cX11_records 76 = .ok (.iastore, 1) := dc1_79 (by decide +kernel)
theorem dX11_records_77 : decode cX11_records 77 = .ok (.iinc 1 1, 3) := dc_iinc (m := 1) (by decide +kernel)
theorem dX11_records_80 : decode cX11_records 80 = .ok (.goto (-29), 3) := dcs_167 (n := 65507) (by decide +kernel)
theorem dX11_records_83 : decode cX11_records 83 = .ok (.aload_n 0, 1) := dc1_42 (by decide +kernel)
theorem dX11_records_84 : decode cX11_records 84 = .ok (.dup, 1) := dc1_89 (by decide +kernel)
theorem dX11_records_85 : decode cX11_records 85 = .ok (.getfield 230, 3) := dcw_180 (by decide +kernel)
theorem dX11_records_88 : decode cX11_records 88 = .ok (.iconst 1, 1) := dc1_4 (by decide +kernel)
theorem dX11_records_89 : decode cX11_records 89 = .ok (.iadd, 1) := dc1_96 (by decide +kernel)
theorem dX11_records_90 : decode cX11_records 90 = .ok (.putfield 230, 3) := dcw_181 (by decide +kernel)
theorem dX11_records_93 : decode cX11_records 93 = .ok (.aload_n 0, 1) := dc1_42 (by decide +kernel)
theorem dX11_records_94 : decode cX11_records 94 = .ok (.invokevirtual 145, 3) := dcw_182 (by decide +kernel)
theorem dX11_records_97 : decode cX11_records 97 = .ok (.return_, 1) := dc1_177 (by decide +kernel)
theorem ggX11_isHere_X11_isParty : GoodIn wsX11_isHere wsX11_isParty := gi_sub (fun w h => List.mem_cons_of_mem _ (List.mem_append_left _ (List.mem_append_right _ h))) gd_wsX11_isParty
set_option maxRecDepth 20000 in
theorem gX11_isHere_X11_isParty : GoodIn wsX11_isHere (wsV RX11 358 RX11 yX11_isParty wsX11_isParty) := goodIn_app (goodIn_r _ [2, 3, 4, 5] (by decide +kernel) (by decide +kernel)) ggX11_isHere_X11_isParty
theorem dX11_isHere_0 : decode cX11_isHere 0 = .ok (.aload_n 0, 1) := dc1_42 (by decide +kernel)
theorem dX11_isHere_1 : decode cX11_isHere 1 = .ok (.iload_n 1, 1) := dc1_27 (by decide +kernel)
theorem dX11_isHere_2 : decode cX11_isHere 2 = .ok (.invokevirtual 358, 3) := dcw_182 (by decide +kernel)
theorem dX11_isHere_5 : decode cX11_isHere 5 = .ok (.ifCond .eq 19, 3) := dcs_153 (n := 19) (by decide +kernel)
theorem dX11_isHere_8 : decode cX11_isHere 8 = .ok (.aload_n 0, 1) := dc1_42 (by decide +kernel)
theorem dX11_isHere_9 : decode cX11_isHere 9 = .ok (.getfield 98, 3) := dcw_180 (by decide +kernel)
theorem dX11_isHere_12 : decode cX11_isHere 12 = .ok (.bipush 15, 2) := dcb_16 (n := 15) (by decide +kernel)
theorem dX11_isHere_14 : decode cX11_isHere 14 = .ok (.iload_n 1, 1) := dc1_27 (by decide +kernel)
theorem dX11_isHere_15 : decode cX11_isHere 15 = .ok (.iadd, 1) := dc1_96 (by decide +kernel)
theorem dX11_isHere_16 : decode cX11_isHere 16 = .ok (.iaload, 1) := dc1_46 (by decide +kernel)
theorem dX11_isHere_17 : decode cX11_isHere 17 = .ok (.ifCond .ne 7, 3) := dcs_154 (n := 7) (by decide +kernel)
theorem dX11_isHere_20 : decode cX11_isHere 20 = .ok (.iconst 1, 1) := dc1_4 (by decide +kernel)
theorem dX11_isHere_21 : decode cX11_isHere 21 = .ok (.goto 4, 3) := dcs_167 (n := 4) (by decide +kernel)
theorem dX11_isHere_24 : decode cX11_isHere 24 = .ok (.iconst 0, 1) := dc1_3 (by decide +kernel)
theorem dX11_isHere_25 : decode cX11_isHere 25 = .ok (.ireturn, 1) := dc1_172 (by decide +kernel)
theorem ggX11_go_X11_isHere : GoodIn wsX11_go wsX11_isHere := gi_sub (fun w h => List.mem_cons_of_mem _ (List.mem_append_left _ (List.mem_append_right _ (List.mem_append_left _ h)))) gd_wsX11_isHere
set_option maxRecDepth 20000 in
theorem gX11_go_X11_isHere : GoodIn wsX11_go (wsV RX11 364 RX11 yX11_isHere wsX11_isHere) := goodIn_app (goodIn_r _ [3, 4, 5, 6] (by decide +kernel) (by decide +kernel)) ggX11_go_X11_isHere
theorem ggX11_go_X11_isGuess : GoodIn wsX11_go wsX11_isGuess := gi_sub (fun w h => List.mem_cons_of_mem _ (List.mem_append_left _ (List.mem_append_right _ (List.mem_append_right _ (List.mem_append_left _ h))))) gd_wsX11_isGuess
set_option maxRecDepth 20000 in
theorem gX11_go_X11_isGuess : GoodIn wsX11_go (wsV RX11 367 RX11 yX11_isGuess wsX11_isGuess) := goodIn_app (goodIn_r _ [7, 8, 9, 6] (by decide +kernel) (by decide +kernel)) ggX11_go_X11_isGuess
theorem ggX11_go_X11_copies : GoodIn wsX11_go wsX11_copies := gi_sub (fun w h => List.mem_cons_of_mem _ (List.mem_append_left _ (List.mem_append_right _ (List.mem_append_right _ (List.mem_append_right _ (List.mem_append_left _ h)))))) gd_wsX11_copies
set_option maxRecDepth 20000 in
theorem gX11_go_X11_copies : GoodIn wsX11_go (wsV RX11 352 RX11 yX11_copies wsX11_copies) := goodIn_app (goodIn_r _ [10, 11, 12, 6] (by decide +kernel) (by decide +kernel)) ggX11_go_X11_copies
theorem ggX11_go_X11_thereNumber : GoodIn wsX11_go wsX11_thereNumber := gi_sub (fun w h => List.mem_cons_of_mem _ (List.mem_append_left _ (List.mem_append_right _ (List.mem_append_right _ (List.mem_append_right _ (List.mem_append_right _ (List.mem_append_left _ h))))))) gd_wsX11_thereNumber
set_option maxRecDepth 20000 in
theorem gX11_go_X11_thereNumber : GoodIn wsX11_go (wsV RX11 370 RX11 yX11_thereNumber wsX11_thereNumber) := goodIn_app (goodIn_r _ [13, 14, 15, 6] (by decide +kernel) (by decide +kernel)) ggX11_go_X11_thereNumber
theorem ggX11_go_X11_goesBy : GoodIn wsX11_go wsX11_goesBy := gi_sub (fun w h => List.mem_cons_of_mem _ (List.mem_append_left _ (List.mem_append_right _ (List.mem_append_right _ (List.mem_append_right _ (List.mem_append_right _ (List.mem_append_right _ (List.mem_append_left _ h)))))))) gd_wsX11_goesBy
set_option maxRecDepth 20000 in
theorem gX11_go_X11_goesBy : GoodIn wsX11_go (wsV RX11 373 RX11 yX11_goesBy wsX11_goesBy) := goodIn_app (goodIn_r _ [16, 17, 18, 6] (by decide +kernel) (by decide +kernel)) ggX11_go_X11_goesBy
theorem ggX11_go_X11_records : GoodIn wsX11_go wsX11_records := gi_sub (fun w h => List.mem_cons_of_mem _ (List.mem_append_left _ (List.mem_append_right _ (List.mem_append_right _ (List.mem_append_right _ (List.mem_append_right _ (List.mem_append_right _ (List.mem_append_right _ h)))))))) gd_wsX11_records
set_option maxRecDepth 20000 in
theorem gX11_go_X11_records : GoodIn wsX11_go (wsV RX11 376 RX11 yX11_records wsX11_records) := goodIn_app (goodIn_r _ [19, 20, 21, 6] (by decide +kernel) (by decide +kernel)) ggX11_go_X11_records
theorem dX11_go_0 : decode cX11_go 0 = .ok (.aload_n 0, 1) := dc1_42 (by decide +kernel)
theorem dX11_go_1 : decode cX11_go 1 = .ok (.iload_n 1, 1) := dc1_27 (by decide +kernel)
theorem dX11_go_2 : decode cX11_go 2 = .ok (.invokevirtual 364, 3) := dcw_182 (by decide +kernel)
theorem dX11_go_5 : decode cX11_go 5 = .ok (.ifCond .eq 23, 3) := dcs_153 (n := 23) (by decide +kernel)
theorem dX11_go_8 : decode cX11_go 8 = .ok (.aload_n 0, 1) := dc1_42 (by decide +kernel)
theorem dX11_go_9 : decode cX11_go 9 = .ok (.getfield 40, 3) := dcw_180 (by decide +kernel)
theorem dX11_go_12 : decode cX11_go 12 = .ok (.aload_n 0, 1) := dc1_42 (by decide +kernel)
theorem dX11_go_13 : decode cX11_go 13 = .ok (.getfield 215, 3) := dcw_180 (by decide +kernel)
theorem dX11_go_16 : decode cX11_go 16 = .ok (.iaload, 1) := dc1_46 (by decide +kernel)
theorem dX11_go_17 : decode cX11_go 17 = .ok (.ifCond .eq 11, 3) := dcs_153 (n := 11) (by decide +kernel)
theorem dX11_go_20 : decode cX11_go 20 = .ok (.aload_n 0, 1) := dc1_42 (by decide +kernel)
theorem dX11_go_21 : decode cX11_go 21 = .ok (.iload_n 2, 1) := dc1_28 (by decide +kernel)
theorem dX11_go_22 : decode cX11_go 22 = .ok (.invokevirtual 367, 3) := dcw_182 (by decide +kernel)
theorem dX11_go_25 : decode cX11_go 25 = .ok (.ifCond .ne 5, 3) := dcs_154 (n := 5) (by decide +kernel)
theorem dX11_go_28 : decode cX11_go 28 = .ok (.iconst (-1), 1) := dc1_2 (by decide +kernel)
theorem dX11_go_29 : decode cX11_go 29 = .ok (.ireturn, 1) := dc1_172 (by decide +kernel)
theorem dX11_go_30 : decode cX11_go 30 = .ok (.aload_n 0, 1) := dc1_42 (by decide +kernel)
theorem dX11_go_31 : decode cX11_go 31 = .ok (.invokevirtual 352, 3) := dcw_182 (by decide +kernel)
theorem dX11_go_34 : decode cX11_go 34 = .ok (.aload_n 0, 1) := dc1_42 (by decide +kernel)
theorem dX11_go_35 : decode cX11_go 35 = .ok (.iload_n 1, 1) := dc1_27 (by decide +kernel)
theorem dX11_go_36 : decode cX11_go 36 = .ok (.iload_n 2, 1) := dc1_28 (by decide +kernel)
theorem dX11_go_37 : decode cX11_go 37 = .ok (.aload_n 0, 1) := dc1_42 (by decide +kernel)
theorem dX11_go_38 : decode cX11_go 38 = .ok (.invokevirtual 370, 3) := dcw_182 (by decide +kernel)
theorem dX11_go_41 : decode cX11_go 41 = .ok (.invokevirtual 373, 3) := dcw_182 (by decide +kernel)
theorem dX11_go_44 : decode cX11_go 44 = .ok (.istore_n 3, 1) := dc1_62 (by decide +kernel)
theorem dX11_go_45 : decode cX11_go 45 = .ok (.aload_n 0, 1) := dc1_42 (by decide +kernel)
theorem dX11_go_46 : decode cX11_go 46 = .ok (.invokevirtual 376, 3) := dcw_182 (by decide +kernel)
theorem dX11_go_49 : decode cX11_go 49 = .ok (.iload_n 3, 1) := dc1_29 (by decide +kernel)
theorem dX11_go_50 : decode cX11_go 50 = .ok (.ireturn, 1) := dc1_172 (by decide +kernel)
theorem ggX11_buoy_X11_isWave : GoodIn wsX11_buoy wsX11_isWave := gi_sub (fun w h => List.mem_cons_of_mem _ (List.mem_append_left _ (List.mem_append_right _ (List.mem_append_left _ h)))) gd_wsX11_isWave
set_option maxRecDepth 20000 in
theorem gX11_buoy_X11_isWave : GoodIn wsX11_buoy (wsV RX11 349 RX11 yX11_isWave wsX11_isWave) := goodIn_app (goodIn_r _ [3, 4, 5, 6] (by decide +kernel) (by decide +kernel)) ggX11_buoy_X11_isWave
theorem ggX11_buoy_X11_isThing : GoodIn wsX11_buoy wsX11_isThing := gi_sub (fun w h => List.mem_cons_of_mem _ (List.mem_append_left _ (List.mem_append_right _ (List.mem_append_right _ (List.mem_append_left _ h))))) gd_wsX11_isThing
set_option maxRecDepth 20000 in
theorem gX11_buoy_X11_isThing : GoodIn wsX11_buoy (va_wsS RX11 355 yX11_isThing wsX11_isThing) := goodIn_app (goodIn_of _ (by decide +kernel)) ggX11_buoy_X11_isThing
theorem ggX11_buoy_X11_copies : GoodIn wsX11_buoy wsX11_copies := gi_sub (fun w h => List.mem_cons_of_mem _ (List.mem_append_left _ (List.mem_append_right _ (List.mem_append_right _ (List.mem_append_right _ (List.mem_append_left _ h)))))) gd_wsX11_copies
set_option maxRecDepth 20000 in
theorem gX11_buoy_X11_copies : GoodIn wsX11_buoy (wsV RX11 352 RX11 yX11_copies wsX11_copies) := goodIn_app (goodIn_r _ [9, 10, 11, 6] (by decide +kernel) (by decide +kernel)) ggX11_buoy_X11_copies
theorem ggX11_buoy_X11_records : GoodIn wsX11_buoy wsX11_records := gi_sub (fun w h => List.mem_cons_of_mem _ (List.mem_append_left _ (List.mem_append_right _ (List.mem_append_right _ (List.mem_append_right _ (List.mem_append_right _ h)))))) gd_wsX11_records
set_option maxRecDepth 20000 in
theorem gX11_buoy_X11_records : GoodIn wsX11_buoy (wsV RX11 376 RX11 yX11_records wsX11_records) := goodIn_app (goodIn_r _ [12, 13, 14, 6] (by decide +kernel) (by decide +kernel)) ggX11_buoy_X11_records
theorem dX11_buoy_0 : decode cX11_buoy 0 = .ok (.aload_n 0, 1) := dc1_42 (by decide +kernel)
theorem dX11_buoy_1 : decode cX11_buoy 1 = .ok (.iload_n 1, 1) := dc1_27 (by decide +kernel)
theorem dX11_buoy_2 : decode cX11_buoy 2 = .ok (.invokevirtual 349, 3) := dcw_182 (by decide +kernel)
theorem dX11_buoy_5 : decode cX11_buoy 5 = .ok (.ifCond .eq 33, 3) := dcs_153 (n := 33) (by decide +kernel)
theorem dX11_buoy_8 : decode cX11_buoy 8 = .ok (.iload_n 2, 1) := dc1_28 (by decide +kernel)
theorem dX11_buoy_9 : decode cX11_buoy 9 = .ok (.invokestatic 355, 3) := dcw_184 (by decide +kernel)
theorem dX11_buoy_12 : decode cX11_buoy 12 = .ok (.ifCond .eq 26, 3) := dcs_153 (n := 26) (by decide +kernel)
theorem dX11_buoy_15 : decode cX11_buoy 15 = .ok (.aload_n 0, 1) := dc1_42 (by decide +kernel)
theorem dX11_buoy_16 : decode cX11_buoy 16 = .ok (.getfield 98, 3) := dcw_180 (by decide +kernel)
theorem dX11_buoy_19 : decode cX11_buoy 19 = .ok (.iload_n 1, 1) := dc1_27 (by decide +kernel)
theorem dX11_buoy_20 : decode cX11_buoy 20 = .ok (.iaload, 1) := dc1_46 (by decide +kernel)
theorem dX11_buoy_21 : decode cX11_buoy 21 = .ok (.iload_n 2, 1) := dc1_28 (by decide +kernel)
theorem dX11_buoy_22 : decode cX11_buoy 22 = .ok (.ishr, 1) := dc1_122 (by decide +kernel)
theorem dX11_buoy_23 : decode cX11_buoy 23 = .ok (.iconst 1, 1) := dc1_4 (by decide +kernel)
theorem dX11_buoy_24 : decode cX11_buoy 24 = .ok (.iand, 1) := dc1_126 (by decide +kernel)
theorem dX11_buoy_25 : decode cX11_buoy 25 = .ok (.iconst 1, 1) := dc1_4 (by decide +kernel)
theorem dX11_buoy_26 : decode cX11_buoy 26 = .ok (.if_icmp .ne 7, 3) := dcs_160 (n := 7) (by decide +kernel)
theorem dX11_buoy_29 : decode cX11_buoy 29 = .ok (.iconst 1, 1) := dc1_4 (by decide +kernel)
theorem dX11_buoy_30 : decode cX11_buoy 30 = .ok (.goto 4, 3) := dcs_167 (n := 4) (by decide +kernel)
theorem dX11_buoy_33 : decode cX11_buoy 33 = .ok (.iconst 0, 1) := dc1_3 (by decide +kernel)
theorem dX11_buoy_34 : decode cX11_buoy 34 = .ok (.iload_n 3, 1) := dc1_29 (by decide +kernel)
theorem dX11_buoy_35 : decode cX11_buoy 35 = .ok (.if_icmp .ne 5, 3) := dcs_160 (n := 5) (by decide +kernel)
theorem dX11_buoy_38 : decode cX11_buoy 38 = .ok (.iconst 0, 1) := dc1_3 (by decide +kernel)
theorem dX11_buoy_39 : decode cX11_buoy 39 = .ok (.ireturn, 1) := dc1_172 (by decide +kernel)
theorem dX11_buoy_40 : decode cX11_buoy 40 = .ok (.aload_n 0, 1) := dc1_42 (by decide +kernel)
theorem dX11_buoy_41 : decode cX11_buoy 41 = .ok (.invokevirtual 352, 3) := dcw_182 (by decide +kernel)
theorem dX11_buoy_44 : decode cX11_buoy 44 = .ok (.aload_n 0, 1) := dc1_42 (by decide +kernel)
theorem dX11_buoy_45 : decode cX11_buoy 45 = .ok (.getfield 101, 3) := dcw_180 (by decide +kernel)
theorem dX11_buoy_48 : decode cX11_buoy 48 = .ok (.iload_n 1, 1) := dc1_27 (by decide +kernel)
theorem dX11_buoy_49 : decode cX11_buoy 49 = .ok (.dup2, 1) := dc1_92 (by decide +kernel)
theorem dX11_buoy_50 : decode cX11_buoy 50 = .ok (.iaload, 1) := dc1_46 (by decide +kernel)
theorem dX11_buoy_51 : decode cX11_buoy 51 = .ok (.iconst 1, 1) := dc1_4 (by decide +kernel)
theorem dX11_buoy_52 : decode cX11_buoy 52 = .ok (.iload_n 2, 1) := dc1_28 (by decide +kernel)
theorem dX11_buoy_53 : decode cX11_buoy 53 = .ok (.ishl, 1) := dc1_120 (by decide +kernel)
theorem dX11_buoy_54 : decode cX11_buoy 54 = .ok (.ixor, 1) := dc1_130 (by decide +kernel)
theorem dX11_buoy_55 : decode cX11_buoy 55 = .ok (.iastore, 1) := dc1_79 (by decide +kernel)
theorem dX11_buoy_56 : decode cX11_buoy 56 = .ok (.aload_n 0, 1) := dc1_42 (by decide +kernel)
theorem dX11_buoy_57 : decode cX11_buoy 57 = .ok (.invokevirtual 376, 3) := dcw_182 (by decide +kernel)
theorem dX11_buoy_60 : decode cX11_buoy 60 = .ok (.iconst 1, 1) := dc1_4 (by decide +kernel)
theorem dX11_buoy_61 : decode cX11_buoy 61 = .ok (.ireturn, 1) := dc1_172 (by decide +kernel)
set_option maxHeartbeats 4000000 in
set_option maxRecDepth 100000 in
theorem br_yearsGo_2 {l : Launch} {dC : Nat → ClassId} {dI : Nat → Nat → Nat} {cB cI cJ cZ cS : ClassId} {h : Nat} {a : Nat → Nat} {as : List Value} {s' : RS} {k2 : RS → Int32 → Int32 → Option RS} (hk2 : ∀ (s : RS) (x1 : Int32) (x2 : Int32), k2 s x1 x2 = some s' → BlkV l yX11_yearsGo wsX11_yearsGo ({ frames := 5, cells := 0, slots := 0, locals := 108 }) cX11_yearsGo 3 none (dC, dI) (tysA cB cI cJ cZ cS) as 2 (mwS cB cI cJ cZ h a s) [(0, .ref h), (1, .int x1), (2, .int x2)] [] (fun u => u = (mwS cB cI cJ cZ h a s'))) (s : RS) (x1 : Int32) (x2 : Int32) (hB : r_yearsGo_2 k2 s x1 x2 = some s') : BlkV l yX11_yearsGo wsX11_yearsGo ({ frames := 5, cells := 0, slots := 0, locals := 108 }) cX11_yearsGo 3 none (dC, dI) (tysA cB cI cJ cZ cS) as 2 (mwS cB cI cJ cZ h a s) [(0, .ref h), (1, .int x1), (2, .int x2)] [] (fun u => u = (mwS cB cI cJ cZ h a s')) := by
  intro p e s0 m below meth c A E H locs ls hP hD hS hl
  obtain ⟨C, hr, hlocks, hA, hK, hN⟩ := id E
  obtain ⟨hx, hb, hml, hown, hts⟩ := id C
  unfold r_yearsGo_2 at hB
  refine lv_iload_n hx hb dX11_yearsGo_2 rfl (lv_at hl 2 rfl) ?_
  refine lv_iload_n hx hb dX11_yearsGo_3 rfl (lv_at hl 1 rfl) ?_
  refine lv_icmp_ge (tgt := 17) hx hb dX11_yearsGo_4 (by decide) (fun c1 => ?_) (fun c1 => ?_)
  · have hB := if_p hB c1
    exact q_vret C hr hlocks hK hP hD hS (Nat.le_of_ble_eq_true rfl) (Nat.le_of_ble_eq_true rfl) dX11_yearsGo_17 (by cases hB; rfl)
  · have hB := if_n hB c1
    refine lv_aload_n hx hb dX11_yearsGo_7 rfl (lv_at hl 0 rfl) ?_
    obtain ⟨s2, hc, hB⟩ := bindP_inv hB
    refine q_govF (va_runV (As := []) (rest := []) C (cr_yearGoes hc _) (cwV 0 hts gX11_yearsGo_X11_yearGoes rfl rfl rfl (by decide +kernel) ⟨Nat.le_of_ble_eq_true rfl, Nat.le_of_ble_eq_true rfl⟩) (q_preV hK hP (ci := 11) (q0 := 0) rfl rfl rfl (q_preF hN hK hP hD)) rfl rfl hl.1 rfl (lv_room (Nat.le_of_ble_eq_true rfl)) dX11_yearsGo_8 ⟨Nat.le_of_ble_eq_true rfl, Nat.le_of_ble_eq_true rfl⟩) hD hS hA (fun w1 H locs hw hP hD hS => ?_)
    subst hw
    refine lv_iinc (v := (x2 + 1)) (lv' := [(2, .int (x2 + 1)), (0, .ref h), (1, .int x1)]) hx hb dX11_yearsGo_11 hl (k := 2) rfl (rfl) (by decide) rfl (fun ls hl => ?_)
    refine lv_goto (tgt := 2) hx hb dX11_yearsGo_14 (by decide) ?_
    exact hk2 _ _ _ hB p e s0 m below meth c A E H locs ls hP hD hS (lv_sub hl [1, 2, 0] rfl)
theorem br_yearsGo_2L {l : Launch} {dC : Nat → ClassId} {dI : Nat → Nat → Nat} {cB cI cJ cZ cS : ClassId} {h : Nat} {a : Nat → Nat} {as : List Value} {s' : RS} : ∀ (n : Nat) (s : RS) (x1 : Int32) (x2 : Int32), r_yearsGo_2L n s x1 x2 = some s' → BlkV l yX11_yearsGo wsX11_yearsGo ({ frames := 5, cells := 0, slots := 0, locals := 108 }) cX11_yearsGo 3 none (dC, dI) (tysA cB cI cJ cZ cS) as 2 (mwS cB cI cJ cZ h a s) [(0, .ref h), (1, .int x1), (2, .int x2)] [] (fun u => u = (mwS cB cI cJ cZ h a s')) := by
  intro n
  induction n with
  | zero => intro s x1 x2 hB; exact none_ne hB
  | succ n ih => intro s x1 x2 hB; exact br_yearsGo_2 ih _ _ _ hB
set_option maxHeartbeats 4000000 in
set_option maxRecDepth 100000 in
theorem br_yearsGo {l : Launch} {dC : Nat → ClassId} {dI : Nat → Nat → Nat} {cB cI cJ cZ cS : ClassId} {h : Nat} {a : Nat → Nat} {as : List Value} {s' : RS} (s : RS) (x1 : Int32) (hB : r_yearsGo s x1 = some s') : BlkV l yX11_yearsGo wsX11_yearsGo ({ frames := 5, cells := 0, slots := 0, locals := 108 }) cX11_yearsGo 3 none (dC, dI) (tysA cB cI cJ cZ cS) as 0 (mwS cB cI cJ cZ h a s) [(0, .ref h), (1, .int x1)] [] (fun u => u = (mwS cB cI cJ cZ h a s')) := by
  intro p e s0 m below meth c A E H locs ls hP hD hS hl
  obtain ⟨C, hr, hlocks, hA, hK, hN⟩ := id E
  obtain ⟨hx, hb, hml, hown, hts⟩ := id C
  unfold r_yearsGo at hB
  refine lv_iconst (v := 0) hx hb dX11_yearsGo_0 (by decide) ?_
  refine lv_istore_n (lv' := [(2, .int 0), (0, .ref h), (1, .int x1)]) hx hb dX11_yearsGo_1 rfl hl (by decide) rfl (fun ls hl => ?_)
  exact br_yearsGo_2L fu _ _ _ hB p e s0 m below meth c A E H locs ls hP hD hS (lv_sub hl [1, 2, 0] rfl)
theorem cr_yearsGo {l : Launch} {dC : Nat → ClassId} {dI : Nat → Nat → Nat} {cB cI cJ cZ cS : ClassId} {h : Nat} {a : Nat → Nat} {s' : RS} {s : RS} {x1 : Int32} (hB : r_yearsGo s x1 = some s') : CV l yX11_yearsGo wsX11_yearsGo ({ frames := 5, cells := 0, slots := 0, locals := 108 }) (dC, dI) (tysA cB cI cJ cZ cS) (mwS cB cI cJ cZ h a s) [.ref h, .int x1] (fun u => u = (mwS cB cI cJ cZ h a s')) :=
  CV_of (cc := cX11_yearsGo) (maxL := 3) (ret := none) (by decide) rfl (Nat.le_of_ble_eq_true rfl) (br_yearsGo _ _ hB)
theorem LX11_wave_101 : Cond.fieldLink RX11 101 "GuessFerryModel" "row" "[I" ∈ wsX11_wave := by decide +kernel
theorem inX11_wave_X11 : ∀ w ∈ u_ws RX11 TX11 58, w ∈ wsX11_wave := by decide +kernel
set_option maxHeartbeats 4000000 in
set_option maxRecDepth 100000 in
theorem br_wave {l : Launch} {dC : Nat → ClassId} {dI : Nat → Nat → Nat} {cB cI cJ cZ cS : ClassId} {h : Nat} {a : Nat → Nat} {as : List Value} {r : Int32} {s' : RS} (s : RS) (x1 : Int32) (x2 : Int32) (hB : r_wave s x1 x2 = some (r, s')) : BlkI l yX11_wave wsX11_wave ({ frames := 4, cells := 0, slots := 0, locals := 87 }) cX11_wave 3 (some .int) (dC, dI) (tysA cB cI cJ cZ cS) as 0 (mwS cB cI cJ cZ h a s) [(0, .ref h), (1, .int x1), (2, .int x2)] [] (fun x u => x = r ∧ u = (mwS cB cI cJ cZ h a s')) := by
  intro p e s0 m below meth c A E H locs ls hP hD hS hl
  obtain ⟨C, hr, hlocks, hA, hK, hN⟩ := id E
  obtain ⟨hx, hb, hml, hown, hts⟩ := id C
  unfold r_wave at hB
  refine lv_aload_n hx hb dX11_wave_0 rfl (lv_at hl 0 rfl) ?_
  refine lv_iload_n hx hb dX11_wave_1 rfl (lv_at hl 1 rfl) ?_
  obtain ⟨q_, s1, hc, hB⟩ := bindI_inv hB
  refine q_goiF (va_runV (As := [.int x1]) (rest := []) C (cr_isWave hc _) (cwV 1 hts gX11_wave_X11_isWave rfl rfl rfl (by decide +kernel) ⟨Nat.le_of_ble_eq_true rfl, Nat.le_of_ble_eq_true rfl⟩) (q_preV hK hP (ci := 11) (q0 := 0) rfl rfl rfl (q_preF hN hK hP hD)) rfl rfl hl.1 rfl (lv_room (Nat.le_of_ble_eq_true rfl)) dX11_wave_2 ⟨Nat.le_of_ble_eq_true rfl, Nat.le_of_ble_eq_true rfl⟩) hD hS hA (fun r2 w1 H locs hw hP hD hS => ?_)
  obtain ⟨hq_, hw⟩ := hw; subst hw; subst hq_
  refine lv_if_ne (tgt := 10) hx hb dX11_wave_5 (by decide) (fun c3 => ?_) (fun c3 => ?_)
  · have hB := if_n hB c3
    refine lv_aload_n hx hb dX11_wave_10 rfl (lv_at hl 0 rfl) ?_
    obtain ⟨s4, hc, hB⟩ := bindP_inv hB
    refine q_govF (va_runV (As := []) (rest := []) C (cr_copies hc _) (cwV 0 hts gX11_wave_X11_copies rfl rfl rfl (by decide +kernel) ⟨Nat.le_of_ble_eq_true rfl, Nat.le_of_ble_eq_true rfl⟩) (q_preV hK hP (ci := 11) (q0 := 0) rfl rfl rfl (q_preF hN hK hP hD)) rfl rfl hl.1 rfl (lv_room (Nat.le_of_ble_eq_true rfl)) dX11_wave_11 ⟨Nat.le_of_ble_eq_true rfl, Nat.le_of_ble_eq_true rfl⟩) hD hS hA (fun w1 H locs hw hP hD hS => ?_)
    subst hw
    refine lv_iload_n hx hb dX11_wave_14 rfl (lv_at hl 2 rfl) ?_
    by_cases e5 : x2 = 0
    · have hB := if_p hB e5
      refine q_top (y := 0) e5 ?_
      refine lv_tableIn (off := 37) (tgt := 52) hx hb dX11_wave_15 (by decide +kernel) (by decide +kernel) (by decide +kernel) (by decide) ?_
      refine lv_aload_n hx hb dX11_wave_52 rfl (lv_at hl 0 rfl) ?_
      refine lv_iload_n hx hb dX11_wave_53 rfl (lv_at hl 1 rfl) ?_
      obtain ⟨q_, s6, hc, hB⟩ := bindI_inv hB
      refine q_goiF (va_runV (As := [.int x1]) (rest := []) C (cr_mayAt hc _) (cwV 1 hts gX11_wave_X11_mayAt rfl rfl rfl (by decide +kernel) ⟨Nat.le_of_ble_eq_true rfl, Nat.le_of_ble_eq_true rfl⟩) (q_preV hK hP (ci := 11) (q0 := 0) rfl rfl rfl (q_preF hN hK hP hD)) rfl rfl hl.1 rfl (lv_room (Nat.le_of_ble_eq_true rfl)) dX11_wave_54 ⟨Nat.le_of_ble_eq_true rfl, Nat.le_of_ble_eq_true rfl⟩) hD hS hA (fun r7 w1 H locs hw hP hD hS => ?_)
      obtain ⟨hq_, hw⟩ := hw; subst hw; subst hq_
      exact q_iret C hr hlocks hK hP hD hS (Nat.le_of_ble_eq_true rfl) (Nat.le_of_ble_eq_true rfl) dX11_wave_57 (by cases hB; exact ⟨rfl, rfl⟩)
    · have hB := if_n hB e5
      by_cases e8 : x2 = 1
      · have hB := if_p hB e8
        refine q_top (y := 1) e8 ?_
        refine lv_tableIn (off := 43) (tgt := 58) hx hb dX11_wave_15 (by decide +kernel) (by decide +kernel) (by decide +kernel) (by decide) ?_
        refine lv_aload_n hx hb dX11_wave_58 rfl (lv_at hl 0 rfl) ?_
        refine q_get (v := .ref (a 44)) C inX11_wave_X11 hK hP 0 rfl rfl 44 (by decide) rfl LX11_wave_101 rfl dX11_wave_59 ?_
        refine lv_iconst (v := 5) hx hb dX11_wave_62 (by decide) ?_
        refine lv_iload_n hx hb dX11_wave_63 rfl (lv_at hl 1 rfl) ?_
        refine lv_iadd hx hb dX11_wave_64 ?_
        obtain ⟨g9, hB⟩ := guard_inv hB
        refine q_iald (x := (s4.f 44 (Int32.toNatClampNeg (5 + x1)))) C hK hP 28 1 rfl rfl (vpb_in g9) dX11_wave_65 rfl ?_
        exact q_iret C hr hlocks hK hP hD hS (Nat.le_of_ble_eq_true rfl) (Nat.le_of_ble_eq_true rfl) dX11_wave_66 (by cases hB; exact ⟨rfl, rfl⟩)
      · have hB := if_n hB e8
        by_cases e10 : x2 = 2
        · have hB := if_p hB e10
          refine q_top (y := 2) e10 ?_
          refine lv_tableIn (off := 52) (tgt := 67) hx hb dX11_wave_15 (by decide +kernel) (by decide +kernel) (by decide +kernel) (by decide) ?_
          refine lv_aload_n hx hb dX11_wave_67 rfl (lv_at hl 0 rfl) ?_
          refine q_get (v := .ref (a 44)) C inX11_wave_X11 hK hP 0 rfl rfl 44 (by decide) rfl LX11_wave_101 rfl dX11_wave_68 ?_
          refine lv_iload_n hx hb dX11_wave_71 rfl (lv_at hl 1 rfl) ?_
          obtain ⟨g11, hB⟩ := guard_inv hB
          refine q_iald (x := (s4.f 44 (Int32.toNatClampNeg x1))) C hK hP 28 1 rfl rfl (vpb_in g11) dX11_wave_72 rfl ?_
          exact q_iret C hr hlocks hK hP hD hS (Nat.le_of_ble_eq_true rfl) (Nat.le_of_ble_eq_true rfl) dX11_wave_73 (by cases hB; exact ⟨rfl, rfl⟩)
        · have hB := if_n hB e10
          by_cases e12 : x2 = 3
          · have hB := if_p hB e12
            refine q_top (y := 3) e12 ?_
            refine lv_tableIn (off := 59) (tgt := 74) hx hb dX11_wave_15 (by decide +kernel) (by decide +kernel) (by decide +kernel) (by decide) ?_
            refine lv_aload_n hx hb dX11_wave_74 rfl (lv_at hl 0 rfl) ?_
            refine q_get (v := .ref (a 44)) C inX11_wave_X11 hK hP 0 rfl rfl 44 (by decide) rfl LX11_wave_101 rfl dX11_wave_75 ?_
            refine lv_bipush (v := 10) hx hb dX11_wave_78 (by decide) ?_
            refine lv_iload_n hx hb dX11_wave_80 rfl (lv_at hl 1 rfl) ?_
            refine lv_iadd hx hb dX11_wave_81 ?_
            obtain ⟨g13, hB⟩ := guard_inv hB
            refine q_iald (x := (s4.f 44 (Int32.toNatClampNeg (10 + x1)))) C hK hP 28 1 rfl rfl (vpb_in g13) dX11_wave_82 rfl ?_
            exact q_iret C hr hlocks hK hP hD hS (Nat.le_of_ble_eq_true rfl) (Nat.le_of_ble_eq_true rfl) dX11_wave_83 (by cases hB; exact ⟨rfl, rfl⟩)
          · have hB := if_n hB e12
            by_cases e14 : x2 = 4
            · have hB := if_p hB e14
              refine q_top (y := 4) e14 ?_
              refine lv_tableIn (off := 69) (tgt := 84) hx hb dX11_wave_15 (by decide +kernel) (by decide +kernel) (by decide +kernel) (by decide) ?_
              refine lv_aload_n hx hb dX11_wave_84 rfl (lv_at hl 0 rfl) ?_
              refine lv_iload_n hx hb dX11_wave_85 rfl (lv_at hl 1 rfl) ?_
              obtain ⟨q_, s15, hc, hB⟩ := bindI_inv hB
              refine q_goiF (va_runV (As := [.int x1]) (rest := []) C (cr_thereAt hc _) (cwV 1 hts gX11_wave_X11_thereAt rfl rfl rfl (by decide +kernel) ⟨Nat.le_of_ble_eq_true rfl, Nat.le_of_ble_eq_true rfl⟩) (q_preV hK hP (ci := 11) (q0 := 0) rfl rfl rfl (q_preF hN hK hP hD)) rfl rfl hl.1 rfl (lv_room (Nat.le_of_ble_eq_true rfl)) dX11_wave_86 ⟨Nat.le_of_ble_eq_true rfl, Nat.le_of_ble_eq_true rfl⟩) hD hS hA (fun r16 w1 H locs hw hP hD hS => ?_)
              obtain ⟨hq_, hw⟩ := hw; subst hw; subst hq_
              exact q_iret C hr hlocks hK hP hD hS (Nat.le_of_ble_eq_true rfl) (Nat.le_of_ble_eq_true rfl) dX11_wave_89 (by cases hB; exact ⟨rfl, rfl⟩)
            · have hB := if_n hB e14
              by_cases e17 : x2 = 5
              · have hB := if_p hB e17
                refine q_top (y := 5) e17 ?_
                refine lv_tableIn (off := 75) (tgt := 90) hx hb dX11_wave_15 (by decide +kernel) (by decide +kernel) (by decide +kernel) (by decide) ?_
                refine lv_aload_n hx hb dX11_wave_90 rfl (lv_at hl 0 rfl) ?_
                refine lv_iload_n hx hb dX11_wave_91 rfl (lv_at hl 1 rfl) ?_
                obtain ⟨q_, s18, hc, hB⟩ := bindI_inv hB
                refine q_goiF (va_runV (As := [.int x1]) (rest := []) C (cr_shiftsOf hc _) (cwV 1 hts gX11_wave_X11_shiftsOf rfl rfl rfl (by decide +kernel) ⟨Nat.le_of_ble_eq_true rfl, Nat.le_of_ble_eq_true rfl⟩) (q_preV hK hP (ci := 11) (q0 := 0) rfl rfl rfl (q_preF hN hK hP hD)) rfl rfl hl.1 rfl (lv_room (Nat.le_of_ble_eq_true rfl)) dX11_wave_92 ⟨Nat.le_of_ble_eq_true rfl, Nat.le_of_ble_eq_true rfl⟩) hD hS hA (fun r19 w1 H locs hw hP hD hS => ?_)
                obtain ⟨hq_, hw⟩ := hw; subst hw; subst hq_
                exact q_iret C hr hlocks hK hP hD hS (Nat.le_of_ble_eq_true rfl) (Nat.le_of_ble_eq_true rfl) dX11_wave_95 (by cases hB; exact ⟨rfl, rfl⟩)
              · have hB := if_n hB e17
                refine lv_tableOut (tgt := 96) hx hb dX11_wave_15 (by have := ne_toInt (k := 0) rfl e5; have := ne_toInt (k := 1) rfl e8; have := ne_toInt (k := 2) rfl e10; have := ne_toInt (k := 3) rfl e12; have := ne_toInt (k := 4) rfl e14; have := ne_toInt (k := 5) rfl e17; omega) (by decide) ?_
                refine lv_iconst (v := (-1)) hx hb dX11_wave_96 (by decide) ?_
                exact q_iret C hr hlocks hK hP hD hS (Nat.le_of_ble_eq_true rfl) (Nat.le_of_ble_eq_true rfl) dX11_wave_97 (by cases hB; exact ⟨rfl, rfl⟩)
  · have hB := if_p hB c3
    refine lv_iconst (v := (-1)) hx hb dX11_wave_8 (by decide) ?_
    exact q_iret C hr hlocks hK hP hD hS (Nat.le_of_ble_eq_true rfl) (Nat.le_of_ble_eq_true rfl) dX11_wave_9 (by cases hB; exact ⟨rfl, rfl⟩)
theorem cr_wave {l : Launch} {dC : Nat → ClassId} {dI : Nat → Nat → Nat} {cB cI cJ cZ cS : ClassId} {h : Nat} {a : Nat → Nat} {r : Int32} {s' : RS} {s : RS} {x1 : Int32} {x2 : Int32} (hB : r_wave s x1 x2 = some (r, s')) : CI l yX11_wave wsX11_wave ({ frames := 4, cells := 0, slots := 0, locals := 87 }) (dC, dI) (tysA cB cI cJ cZ cS) (mwS cB cI cJ cZ h a s) [.ref h, .int x1, .int x2] (fun x u => x = r ∧ u = (mwS cB cI cJ cZ h a s')) :=
  CI_of (cc := cX11_wave) (maxL := 3) (ret := (some .int)) (by decide) rfl (Nat.le_of_ble_eq_true rfl) (br_wave _ _ _ hB)
set_option maxHeartbeats 4000000 in
set_option maxRecDepth 100000 in
theorem br_odds {l : Launch} {dC : Nat → ClassId} {dI : Nat → Nat → Nat} {cB cI cJ cZ cS : ClassId} {h : Nat} {a : Nat → Nat} {as : List Value} {r : Int32} {s' : RS} (s : RS) (x1 : Int32) (x2 : Int32) (hB : r_odds s x1 x2 = some (r, s')) : BlkI l yX11_odds wsX11_odds ({ frames := 2, cells := 0, slots := 0, locals := 43 }) cX11_odds 3 (some .int) (dC, dI) (tysA cB cI cJ cZ cS) as 0 (mwS cB cI cJ cZ h a s) [(0, .ref h), (1, .int x1), (2, .int x2)] [] (fun x u => x = r ∧ u = (mwS cB cI cJ cZ h a s')) := by
  intro p e s0 m below meth c A E H locs ls hP hD hS hl
  obtain ⟨C, hr, hlocks, hA, hK, hN⟩ := id E
  obtain ⟨hx, hb, hml, hown, hts⟩ := id C
  unfold r_odds at hB
  refine lv_aload_n hx hb dX11_odds_0 rfl (lv_at hl 0 rfl) ?_
  refine lv_iload_n hx hb dX11_odds_1 rfl (lv_at hl 1 rfl) ?_
  obtain ⟨q_, s1, hc, hB⟩ := bindI_inv hB
  refine q_goiF (va_runV (As := [.int x1]) (rest := []) C (cr_isWave hc _) (cwV 1 hts gX11_odds_X11_isWave rfl rfl rfl (by decide +kernel) ⟨Nat.le_of_ble_eq_true rfl, Nat.le_of_ble_eq_true rfl⟩) (q_preV hK hP (ci := 11) (q0 := 0) rfl rfl rfl (q_preF hN hK hP hD)) rfl rfl hl.1 rfl (lv_room (Nat.le_of_ble_eq_true rfl)) dX11_odds_2 ⟨Nat.le_of_ble_eq_true rfl, Nat.le_of_ble_eq_true rfl⟩) hD hS hA (fun r2 w1 H locs hw hP hD hS => ?_)
  obtain ⟨hq_, hw⟩ := hw; subst hw; subst hq_
  refine lv_if_eq (tgt := 24) hx hb dX11_odds_5 (by decide) (fun c3 => ?_) (fun c3 => ?_)
  · have hB := if_p hB c3
    refine lv_iconst (v := (-1)) hx hb dX11_odds_24 (by decide) ?_
    exact q_iret C hr hlocks hK hP hD hS (Nat.le_of_ble_eq_true rfl) (Nat.le_of_ble_eq_true rfl) dX11_odds_25 (by cases hB; exact ⟨rfl, rfl⟩)
  · have hB := if_n hB c3
    refine lv_iload_n hx hb dX11_odds_8 rfl (lv_at hl 2 rfl) ?_
    obtain ⟨q_, hc, hB⟩ := bindP_inv hB
    refine q_goi0 (va_runS (As := [.int x2]) (rest := []) C (cr_isThing hc _) (va_cwS 1 hts gX11_odds_X11_isThing rfl rfl rfl (by decide +kernel) ⟨Nat.le_of_ble_eq_true rfl, Nat.le_of_ble_eq_true rfl⟩) (q_pre0 hN hK) rfl rfl hl.1 rfl (lv_room (Nat.le_of_ble_eq_true rfl)) dX11_odds_9 ⟨Nat.le_of_ble_eq_true rfl, Nat.le_of_ble_eq_true rfl⟩) hP hD hS hA (fun r4 w1 H locs hw hP hS => ?_)
    subst hw
    refine lv_if_eq (tgt := 24) hx hb dX11_odds_12 (by decide) (fun c5 => ?_) (fun c5 => ?_)
    · have hB := if_p hB c5
      refine lv_iconst (v := (-1)) hx hb dX11_odds_24 (by decide) ?_
      exact q_iret C hr hlocks hK hP hD hS (Nat.le_of_ble_eq_true rfl) (Nat.le_of_ble_eq_true rfl) dX11_odds_25 (by cases hB; exact ⟨rfl, rfl⟩)
    · have hB := if_n hB c5
      refine lv_aload_n hx hb dX11_odds_15 rfl (lv_at hl 0 rfl) ?_
      refine lv_iload_n hx hb dX11_odds_16 rfl (lv_at hl 1 rfl) ?_
      refine lv_iload_n hx hb dX11_odds_17 rfl (lv_at hl 2 rfl) ?_
      obtain ⟨q_, s6, hc, hB⟩ := bindI_inv hB
      refine q_goiF (va_runV (As := [.int x1, .int x2]) (rest := []) C (cr_oddsAt hc _) (cwV 2 hts gX11_odds_X11_oddsAt rfl rfl rfl (by decide +kernel) ⟨Nat.le_of_ble_eq_true rfl, Nat.le_of_ble_eq_true rfl⟩) (q_preV hK hP (ci := 11) (q0 := 0) rfl rfl rfl (q_preF hN hK hP hD)) rfl rfl hl.1 rfl (lv_room (Nat.le_of_ble_eq_true rfl)) dX11_odds_18 ⟨Nat.le_of_ble_eq_true rfl, Nat.le_of_ble_eq_true rfl⟩) hD hS hA (fun r7 w1 H locs hw hP hD hS => ?_)
      obtain ⟨hq_, hw⟩ := hw; subst hw; subst hq_
      refine lv_goto (tgt := 25) hx hb dX11_odds_21 (by decide) ?_
      exact q_iret C hr hlocks hK hP hD hS (Nat.le_of_ble_eq_true rfl) (Nat.le_of_ble_eq_true rfl) dX11_odds_25 (by cases hB; exact ⟨rfl, rfl⟩)
theorem cr_odds {l : Launch} {dC : Nat → ClassId} {dI : Nat → Nat → Nat} {cB cI cJ cZ cS : ClassId} {h : Nat} {a : Nat → Nat} {r : Int32} {s' : RS} {s : RS} {x1 : Int32} {x2 : Int32} (hB : r_odds s x1 x2 = some (r, s')) : CI l yX11_odds wsX11_odds ({ frames := 2, cells := 0, slots := 0, locals := 43 }) (dC, dI) (tysA cB cI cJ cZ cS) (mwS cB cI cJ cZ h a s) [.ref h, .int x1, .int x2] (fun x u => x = r ∧ u = (mwS cB cI cJ cZ h a s')) :=
  CI_of (cc := cX11_odds) (maxL := 3) (ret := (some .int)) (by decide) rfl (Nat.le_of_ble_eq_true rfl) (br_odds _ _ _ hB)
theorem LX11_party_101 : Cond.fieldLink RX11 101 "GuessFerryModel" "row" "[I" ∈ wsX11_party := by decide +kernel
theorem LX11_party_215 : Cond.fieldLink RX11 215 "GuessFerryModel" "live" "I" ∈ wsX11_party := by decide +kernel
theorem LX11_party_52 : Cond.fieldLink RX11 52 "GuessFerryModel" "heavyOf" "[I" ∈ wsX11_party := by decide +kernel
theorem LX11_party_55 : Cond.fieldLink RX11 55 "GuessFerryModel" "nerveOf" "[I" ∈ wsX11_party := by decide +kernel
theorem inX11_party_X11 : ∀ w ∈ u_ws RX11 TX11 58, w ∈ wsX11_party := by decide +kernel
set_option maxHeartbeats 4000000 in
set_option maxRecDepth 100000 in
theorem br_party {l : Launch} {dC : Nat → ClassId} {dI : Nat → Nat → Nat} {cB cI cJ cZ cS : ClassId} {h : Nat} {a : Nat → Nat} {as : List Value} {r : Int32} {s' : RS} (s : RS) (x1 : Int32) (x2 : Int32) (hB : r_party s x1 x2 = some (r, s')) : BlkI l yX11_party wsX11_party ({ frames := 3, cells := 0, slots := 0, locals := 74 }) cX11_party 3 (some .int) (dC, dI) (tysA cB cI cJ cZ cS) as 0 (mwS cB cI cJ cZ h a s) [(0, .ref h), (1, .int x1), (2, .int x2)] [] (fun x u => x = r ∧ u = (mwS cB cI cJ cZ h a s')) := by
  intro p e s0 m below meth c A E H locs ls hP hD hS hl
  obtain ⟨C, hr, hlocks, hA, hK, hN⟩ := id E
  obtain ⟨hx, hb, hml, hown, hts⟩ := id C
  unfold r_party at hB
  refine lv_aload_n hx hb dX11_party_0 rfl (lv_at hl 0 rfl) ?_
  refine lv_iload_n hx hb dX11_party_1 rfl (lv_at hl 1 rfl) ?_
  obtain ⟨q_, s1, hc, hB⟩ := bindI_inv hB
  refine q_goiF (va_runV (As := [.int x1]) (rest := []) C (cr_isParty hc _) (cwV 1 hts gX11_party_X11_isParty rfl rfl rfl (by decide +kernel) ⟨Nat.le_of_ble_eq_true rfl, Nat.le_of_ble_eq_true rfl⟩) (q_preV hK hP (ci := 11) (q0 := 0) rfl rfl rfl (q_preF hN hK hP hD)) rfl rfl hl.1 rfl (lv_room (Nat.le_of_ble_eq_true rfl)) dX11_party_2 ⟨Nat.le_of_ble_eq_true rfl, Nat.le_of_ble_eq_true rfl⟩) hD hS hA (fun r2 w1 H locs hw hP hD hS => ?_)
  obtain ⟨hq_, hw⟩ := hw; subst hw; subst hq_
  refine lv_if_ne (tgt := 10) hx hb dX11_party_5 (by decide) (fun c3 => ?_) (fun c3 => ?_)
  · have hB := if_n hB c3
    refine lv_aload_n hx hb dX11_party_10 rfl (lv_at hl 0 rfl) ?_
    obtain ⟨s4, hc, hB⟩ := bindP_inv hB
    refine q_govF (va_runV (As := []) (rest := []) C (cr_copies hc _) (cwV 0 hts gX11_party_X11_copies rfl rfl rfl (by decide +kernel) ⟨Nat.le_of_ble_eq_true rfl, Nat.le_of_ble_eq_true rfl⟩) (q_preV hK hP (ci := 11) (q0 := 0) rfl rfl rfl (q_preF hN hK hP hD)) rfl rfl hl.1 rfl (lv_room (Nat.le_of_ble_eq_true rfl)) dX11_party_11 ⟨Nat.le_of_ble_eq_true rfl, Nat.le_of_ble_eq_true rfl⟩) hD hS hA (fun w1 H locs hw hP hD hS => ?_)
    subst hw
    refine lv_iload_n hx hb dX11_party_14 rfl (lv_at hl 2 rfl) ?_
    by_cases e5 : x2 = 0
    · have hB := if_p hB e5
      refine q_top (y := 0) e5 ?_
      refine lv_tableIn (off := 37) (tgt := 52) hx hb dX11_party_15 (by decide +kernel) (by decide +kernel) (by decide +kernel) (by decide) ?_
      refine lv_aload_n hx hb dX11_party_52 rfl (lv_at hl 0 rfl) ?_
      refine q_get (v := .ref (a 24)) C inX11_party_X11 hK hP 0 rfl rfl 24 (by decide) rfl LX11_party_52 rfl dX11_party_53 ?_
      refine lv_bipush (v := 6) hx hb dX11_party_56 (by decide) ?_
      refine lv_aload_n hx hb dX11_party_58 rfl (lv_at hl 0 rfl) ?_
      refine q_get (v := .int (s4.v 18)) C inX11_party_X11 hK hP 0 rfl rfl 18 (by decide) rfl LX11_party_215 rfl dX11_party_59 ?_
      refine lv_imul hx hb dX11_party_62 ?_
      refine lv_iload_n hx hb dX11_party_63 rfl (lv_at hl 1 rfl) ?_
      refine lv_iadd hx hb dX11_party_64 ?_
      obtain ⟨g6, hB⟩ := guard_inv hB
      refine q_iald (x := (s4.f 24 (Int32.toNatClampNeg ((6 * (s4.v 18)) + x1)))) C hK hP 12 1 rfl rfl (vpb_in g6) dX11_party_65 rfl ?_
      exact q_iret C hr hlocks hK hP hD hS (Nat.le_of_ble_eq_true rfl) (Nat.le_of_ble_eq_true rfl) dX11_party_66 (by cases hB; exact ⟨rfl, rfl⟩)
    · have hB := if_n hB e5
      by_cases e7 : x2 = 1
      · have hB := if_p hB e7
        refine q_top (y := 1) e7 ?_
        refine lv_tableIn (off := 52) (tgt := 67) hx hb dX11_party_15 (by decide +kernel) (by decide +kernel) (by decide +kernel) (by decide) ?_
        refine lv_aload_n hx hb dX11_party_67 rfl (lv_at hl 0 rfl) ?_
        refine q_get (v := .ref (a 25)) C inX11_party_X11 hK hP 0 rfl rfl 25 (by decide) rfl LX11_party_55 rfl dX11_party_68 ?_
        refine lv_bipush (v := 6) hx hb dX11_party_71 (by decide) ?_
        refine lv_aload_n hx hb dX11_party_73 rfl (lv_at hl 0 rfl) ?_
        refine q_get (v := .int (s4.v 18)) C inX11_party_X11 hK hP 0 rfl rfl 18 (by decide) rfl LX11_party_215 rfl dX11_party_74 ?_
        refine lv_imul hx hb dX11_party_77 ?_
        refine lv_iload_n hx hb dX11_party_78 rfl (lv_at hl 1 rfl) ?_
        refine lv_iadd hx hb dX11_party_79 ?_
        obtain ⟨g8, hB⟩ := guard_inv hB
        refine q_iald (x := (s4.f 25 (Int32.toNatClampNeg ((6 * (s4.v 18)) + x1)))) C hK hP 13 1 rfl rfl (vpb_in g8) dX11_party_80 rfl ?_
        exact q_iret C hr hlocks hK hP hD hS (Nat.le_of_ble_eq_true rfl) (Nat.le_of_ble_eq_true rfl) dX11_party_81 (by cases hB; exact ⟨rfl, rfl⟩)
      · have hB := if_n hB e7
        by_cases e9 : x2 = 2
        · have hB := if_p hB e9
          refine q_top (y := 2) e9 ?_
          refine lv_tableIn (off := 67) (tgt := 82) hx hb dX11_party_15 (by decide +kernel) (by decide +kernel) (by decide +kernel) (by decide) ?_
          refine lv_aload_n hx hb dX11_party_82 rfl (lv_at hl 0 rfl) ?_
          refine q_get (v := .ref (a 44)) C inX11_party_X11 hK hP 0 rfl rfl 44 (by decide) rfl LX11_party_101 rfl dX11_party_83 ?_
          refine lv_bipush (v := 15) hx hb dX11_party_86 (by decide) ?_
          refine lv_iload_n hx hb dX11_party_88 rfl (lv_at hl 1 rfl) ?_
          refine lv_iadd hx hb dX11_party_89 ?_
          obtain ⟨g10, hB⟩ := guard_inv hB
          refine q_iald (x := (s4.f 44 (Int32.toNatClampNeg (15 + x1)))) C hK hP 28 1 rfl rfl (vpb_in g10) dX11_party_90 rfl ?_
          exact q_iret C hr hlocks hK hP hD hS (Nat.le_of_ble_eq_true rfl) (Nat.le_of_ble_eq_true rfl) dX11_party_91 (by cases hB; exact ⟨rfl, rfl⟩)
        · have hB := if_n hB e9
          by_cases e11 : x2 = 3
          · have hB := if_p hB e11
            refine q_top (y := 3) e11 ?_
            refine lv_tableIn (off := 77) (tgt := 92) hx hb dX11_party_15 (by decide +kernel) (by decide +kernel) (by decide +kernel) (by decide) ?_
            refine lv_aload_n hx hb dX11_party_92 rfl (lv_at hl 0 rfl) ?_
            refine q_get (v := .ref (a 44)) C inX11_party_X11 hK hP 0 rfl rfl 44 (by decide) rfl LX11_party_101 rfl dX11_party_93 ?_
            refine lv_bipush (v := 21) hx hb dX11_party_96 (by decide) ?_
            refine lv_iload_n hx hb dX11_party_98 rfl (lv_at hl 1 rfl) ?_
            refine lv_iadd hx hb dX11_party_99 ?_
            obtain ⟨g12, hB⟩ := guard_inv hB
            refine q_iald (x := (s4.f 44 (Int32.toNatClampNeg (21 + x1)))) C hK hP 28 1 rfl rfl (vpb_in g12) dX11_party_100 rfl ?_
            exact q_iret C hr hlocks hK hP hD hS (Nat.le_of_ble_eq_true rfl) (Nat.le_of_ble_eq_true rfl) dX11_party_101 (by cases hB; exact ⟨rfl, rfl⟩)
          · have hB := if_n hB e11
            by_cases e13 : x2 = 4
            · have hB := if_p hB e13
              refine q_top (y := 4) e13 ?_
              refine lv_tableIn (off := 87) (tgt := 102) hx hb dX11_party_15 (by decide +kernel) (by decide +kernel) (by decide +kernel) (by decide) ?_
              refine lv_aload_n hx hb dX11_party_102 rfl (lv_at hl 0 rfl) ?_
              refine lv_iload_n hx hb dX11_party_103 rfl (lv_at hl 1 rfl) ?_
              obtain ⟨q_, s14, hc, hB⟩ := bindI_inv hB
              refine q_goiF (va_runV (As := [.int x1]) (rest := []) C (cr_faresOf hc _) (cwV 1 hts gX11_party_X11_faresOf rfl rfl rfl (by decide +kernel) ⟨Nat.le_of_ble_eq_true rfl, Nat.le_of_ble_eq_true rfl⟩) (q_preV hK hP (ci := 11) (q0 := 0) rfl rfl rfl (q_preF hN hK hP hD)) rfl rfl hl.1 rfl (lv_room (Nat.le_of_ble_eq_true rfl)) dX11_party_104 ⟨Nat.le_of_ble_eq_true rfl, Nat.le_of_ble_eq_true rfl⟩) hD hS hA (fun r15 w1 H locs hw hP hD hS => ?_)
              obtain ⟨hq_, hw⟩ := hw; subst hw; subst hq_
              exact q_iret C hr hlocks hK hP hD hS (Nat.le_of_ble_eq_true rfl) (Nat.le_of_ble_eq_true rfl) dX11_party_107 (by cases hB; exact ⟨rfl, rfl⟩)
            · have hB := if_n hB e13
              by_cases e16 : x2 = 5
              · have hB := if_p hB e16
                refine q_top (y := 5) e16 ?_
                refine lv_tableIn (off := 93) (tgt := 108) hx hb dX11_party_15 (by decide +kernel) (by decide +kernel) (by decide +kernel) (by decide) ?_
                refine lv_aload_n hx hb dX11_party_108 rfl (lv_at hl 0 rfl) ?_
                refine lv_iload_n hx hb dX11_party_109 rfl (lv_at hl 1 rfl) ?_
                obtain ⟨q_, s17, hc, hB⟩ := bindI_inv hB
                refine q_goiF (va_runV (As := [.int x1]) (rest := []) C (cr_doesDare hc _) (cwV 1 hts gX11_party_X11_doesDare rfl rfl rfl (by decide +kernel) ⟨Nat.le_of_ble_eq_true rfl, Nat.le_of_ble_eq_true rfl⟩) (q_preV hK hP (ci := 11) (q0 := 0) rfl rfl rfl (q_preF hN hK hP hD)) rfl rfl hl.1 rfl (lv_room (Nat.le_of_ble_eq_true rfl)) dX11_party_110 ⟨Nat.le_of_ble_eq_true rfl, Nat.le_of_ble_eq_true rfl⟩) hD hS hA (fun r18 w1 H locs hw hP hD hS => ?_)
                obtain ⟨hq_, hw⟩ := hw; subst hw; subst hq_
                refine lv_if_eq (tgt := 120) hx hb dX11_party_113 (by decide) (fun c19 => ?_) (fun c19 => ?_)
                · have hB := if_p hB c19
                  refine lv_iconst (v := 0) hx hb dX11_party_120 (by decide) ?_
                  exact q_iret C hr hlocks hK hP hD hS (Nat.le_of_ble_eq_true rfl) (Nat.le_of_ble_eq_true rfl) dX11_party_121 (by cases hB; exact ⟨rfl, rfl⟩)
                · have hB := if_n hB c19
                  refine lv_iconst (v := 1) hx hb dX11_party_116 (by decide) ?_
                  refine lv_goto (tgt := 121) hx hb dX11_party_117 (by decide) ?_
                  exact q_iret C hr hlocks hK hP hD hS (Nat.le_of_ble_eq_true rfl) (Nat.le_of_ble_eq_true rfl) dX11_party_121 (by cases hB; exact ⟨rfl, rfl⟩)
              · have hB := if_n hB e16
                refine lv_tableOut (tgt := 122) hx hb dX11_party_15 (by have := ne_toInt (k := 0) rfl e5; have := ne_toInt (k := 1) rfl e7; have := ne_toInt (k := 2) rfl e9; have := ne_toInt (k := 3) rfl e11; have := ne_toInt (k := 4) rfl e13; have := ne_toInt (k := 5) rfl e16; omega) (by decide) ?_
                refine lv_iconst (v := (-1)) hx hb dX11_party_122 (by decide) ?_
                exact q_iret C hr hlocks hK hP hD hS (Nat.le_of_ble_eq_true rfl) (Nat.le_of_ble_eq_true rfl) dX11_party_123 (by cases hB; exact ⟨rfl, rfl⟩)
  · have hB := if_p hB c3
    refine lv_iconst (v := (-1)) hx hb dX11_party_8 (by decide) ?_
    exact q_iret C hr hlocks hK hP hD hS (Nat.le_of_ble_eq_true rfl) (Nat.le_of_ble_eq_true rfl) dX11_party_9 (by cases hB; exact ⟨rfl, rfl⟩)
theorem cr_party {l : Launch} {dC : Nat → ClassId} {dI : Nat → Nat → Nat} {cB cI cJ cZ cS : ClassId} {h : Nat} {a : Nat → Nat} {r : Int32} {s' : RS} {s : RS} {x1 : Int32} {x2 : Int32} (hB : r_party s x1 x2 = some (r, s')) : CI l yX11_party wsX11_party ({ frames := 3, cells := 0, slots := 0, locals := 74 }) (dC, dI) (tysA cB cI cJ cZ cS) (mwS cB cI cJ cZ h a s) [.ref h, .int x1, .int x2] (fun x u => x = r ∧ u = (mwS cB cI cJ cZ h a s')) :=
  CI_of (cc := cX11_party) (maxL := 3) (ret := (some .int)) (by decide) rfl (Nat.le_of_ble_eq_true rfl) (br_party _ _ _ hB)
set_option maxHeartbeats 4000000 in
set_option maxRecDepth 100000 in
theorem br_needs {l : Launch} {dC : Nat → ClassId} {dI : Nat → Nat → Nat} {cB cI cJ cZ cS : ClassId} {h : Nat} {a : Nat → Nat} {as : List Value} {r : Int32} {s' : RS} (s : RS) (x1 : Int32) (x2 : Int32) (x3 : Int32) (hB : r_needs s x1 x2 x3 = some (r, s')) : BlkI l yX11_needs wsX11_needs ({ frames := 4, cells := 0, slots := 0, locals := 89 }) cX11_needs 4 (some .int) (dC, dI) (tysA cB cI cJ cZ cS) as 0 (mwS cB cI cJ cZ h a s) [(0, .ref h), (1, .int x1), (2, .int x2), (3, .int x3)] [] (fun x u => x = r ∧ u = (mwS cB cI cJ cZ h a s')) := by
  intro p e s0 m below meth c A E H locs ls hP hD hS hl
  obtain ⟨C, hr, hlocks, hA, hK, hN⟩ := id E
  obtain ⟨hx, hb, hml, hown, hts⟩ := id C
  unfold r_needs at hB
  refine lv_aload_n hx hb dX11_needs_0 rfl (lv_at hl 0 rfl) ?_
  refine lv_iload_n hx hb dX11_needs_1 rfl (lv_at hl 1 rfl) ?_
  obtain ⟨q_, s1, hc, hB⟩ := bindI_inv hB
  refine q_goiF (va_runV (As := [.int x1]) (rest := []) C (cr_isParty hc _) (cwV 1 hts gX11_needs_X11_isParty rfl rfl rfl (by decide +kernel) ⟨Nat.le_of_ble_eq_true rfl, Nat.le_of_ble_eq_true rfl⟩) (q_preV hK hP (ci := 11) (q0 := 0) rfl rfl rfl (q_preF hN hK hP hD)) rfl rfl hl.1 rfl (lv_room (Nat.le_of_ble_eq_true rfl)) dX11_needs_2 ⟨Nat.le_of_ble_eq_true rfl, Nat.le_of_ble_eq_true rfl⟩) hD hS hA (fun r2 w1 H locs hw hP hD hS => ?_)
  obtain ⟨hq_, hw⟩ := hw; subst hw; subst hq_
  refine lv_if_eq (tgt := 23) hx hb dX11_needs_5 (by decide) (fun c3 => ?_) (fun c3 => ?_)
  · have hB := if_p hB c3
    refine lv_iconst (v := (-1)) hx hb dX11_needs_23 (by decide) ?_
    exact q_iret C hr hlocks hK hP hD hS (Nat.le_of_ble_eq_true rfl) (Nat.le_of_ble_eq_true rfl) dX11_needs_24 (by cases hB; exact ⟨rfl, rfl⟩)
  · have hB := if_n hB c3
    refine lv_aload_n hx hb dX11_needs_8 rfl (lv_at hl 0 rfl) ?_
    refine lv_iload_n hx hb dX11_needs_9 rfl (lv_at hl 2 rfl) ?_
    obtain ⟨q_, s4, hc, hB⟩ := bindI_inv hB
    refine q_goiF (va_runV (As := [.int x2]) (rest := []) C (cr_isWave hc _) (cwV 1 hts gX11_needs_X11_isWave rfl rfl rfl (by decide +kernel) ⟨Nat.le_of_ble_eq_true rfl, Nat.le_of_ble_eq_true rfl⟩) (q_preV hK hP (ci := 11) (q0 := 0) rfl rfl rfl (q_preF hN hK hP hD)) rfl rfl hl.1 rfl (lv_room (Nat.le_of_ble_eq_true rfl)) dX11_needs_10 ⟨Nat.le_of_ble_eq_true rfl, Nat.le_of_ble_eq_true rfl⟩) hD hS hA (fun r5 w1 H locs hw hP hD hS => ?_)
    obtain ⟨hq_, hw⟩ := hw; subst hw; subst hq_
    refine lv_if_eq (tgt := 23) hx hb dX11_needs_13 (by decide) (fun c6 => ?_) (fun c6 => ?_)
    · have hB := if_p hB c6
      refine lv_iconst (v := (-1)) hx hb dX11_needs_23 (by decide) ?_
      exact q_iret C hr hlocks hK hP hD hS (Nat.le_of_ble_eq_true rfl) (Nat.le_of_ble_eq_true rfl) dX11_needs_24 (by cases hB; exact ⟨rfl, rfl⟩)
    · have hB := if_n hB c6
      refine lv_iload_n hx hb dX11_needs_16 rfl (lv_at hl 3 rfl) ?_
      obtain ⟨q_, hc, hB⟩ := bindP_inv hB
      refine q_goi0 (va_runS (As := [.int x3]) (rest := []) C (cr_isThing hc _) (va_cwS 1 hts gX11_needs_X11_isThing rfl rfl rfl (by decide +kernel) ⟨Nat.le_of_ble_eq_true rfl, Nat.le_of_ble_eq_true rfl⟩) (q_pre0 hN hK) rfl rfl hl.1 rfl (lv_room (Nat.le_of_ble_eq_true rfl)) dX11_needs_17 ⟨Nat.le_of_ble_eq_true rfl, Nat.le_of_ble_eq_true rfl⟩) hP hD hS hA (fun r7 w1 H locs hw hP hS => ?_)
      subst hw
      refine lv_if_ne (tgt := 25) hx hb dX11_needs_20 (by decide) (fun c8 => ?_) (fun c8 => ?_)
      · have hB := if_n hB c8
        refine lv_aload_n hx hb dX11_needs_25 rfl (lv_at hl 0 rfl) ?_
        obtain ⟨s9, hc, hB⟩ := bindP_inv hB
        refine q_govF (va_runV (As := []) (rest := []) C (cr_copies hc _) (cwV 0 hts gX11_needs_X11_copies rfl rfl rfl (by decide +kernel) ⟨Nat.le_of_ble_eq_true rfl, Nat.le_of_ble_eq_true rfl⟩) (q_preV hK hP (ci := 11) (q0 := 0) rfl rfl rfl (q_preF hN hK hP hD)) rfl rfl hl.1 rfl (lv_room (Nat.le_of_ble_eq_true rfl)) dX11_needs_26 ⟨Nat.le_of_ble_eq_true rfl, Nat.le_of_ble_eq_true rfl⟩) hD hS hA (fun w1 H locs hw hP hD hS => ?_)
        subst hw
        refine lv_aload_n hx hb dX11_needs_29 rfl (lv_at hl 0 rfl) ?_
        refine lv_iload_n hx hb dX11_needs_30 rfl (lv_at hl 1 rfl) ?_
        refine lv_iload_n hx hb dX11_needs_31 rfl (lv_at hl 2 rfl) ?_
        refine lv_iload_n hx hb dX11_needs_32 rfl (lv_at hl 3 rfl) ?_
        obtain ⟨q_, s10, hc, hB⟩ := bindI_inv hB
        refine q_goiF (va_runV (As := [.int x1, .int x2, .int x3]) (rest := []) C (cr_needsOf hc _) (cwV 3 hts gX11_needs_X11_needsOf rfl rfl rfl (by decide +kernel) ⟨Nat.le_of_ble_eq_true rfl, Nat.le_of_ble_eq_true rfl⟩) (q_preV hK hP (ci := 11) (q0 := 0) rfl rfl rfl (q_preF hN hK hP hD)) rfl rfl hl.1 rfl (lv_room (Nat.le_of_ble_eq_true rfl)) dX11_needs_33 ⟨Nat.le_of_ble_eq_true rfl, Nat.le_of_ble_eq_true rfl⟩) hD hS hA (fun r11 w1 H locs hw hP hD hS => ?_)
        obtain ⟨hq_, hw⟩ := hw; subst hw; subst hq_
        exact q_iret C hr hlocks hK hP hD hS (Nat.le_of_ble_eq_true rfl) (Nat.le_of_ble_eq_true rfl) dX11_needs_36 (by cases hB; exact ⟨rfl, rfl⟩)
      · have hB := if_p hB c8
        refine lv_iconst (v := (-1)) hx hb dX11_needs_23 (by decide) ?_
        exact q_iret C hr hlocks hK hP hD hS (Nat.le_of_ble_eq_true rfl) (Nat.le_of_ble_eq_true rfl) dX11_needs_24 (by cases hB; exact ⟨rfl, rfl⟩)
theorem cr_needs {l : Launch} {dC : Nat → ClassId} {dI : Nat → Nat → Nat} {cB cI cJ cZ cS : ClassId} {h : Nat} {a : Nat → Nat} {r : Int32} {s' : RS} {s : RS} {x1 : Int32} {x2 : Int32} {x3 : Int32} (hB : r_needs s x1 x2 x3 = some (r, s')) : CI l yX11_needs wsX11_needs ({ frames := 4, cells := 0, slots := 0, locals := 89 }) (dC, dI) (tysA cB cI cJ cZ cS) (mwS cB cI cJ cZ h a s) [.ref h, .int x1, .int x2, .int x3] (fun x u => x = r ∧ u = (mwS cB cI cJ cZ h a s')) :=
  CI_of (cc := cX11_needs) (maxL := 4) (ret := (some .int)) (by decide) rfl (Nat.le_of_ble_eq_true rfl) (br_needs _ _ _ _ hB)
theorem LX11_records_110 : Cond.fieldLink RX11 110 "GuessFerryModel" "history" "[I" ∈ wsX11_records := by decide +kernel
theorem LX11_records_230 : Cond.fieldLink RX11 230 "GuessFerryModel" "undos" "I" ∈ wsX11_records := by decide +kernel
theorem LX11_records_98 : Cond.fieldLink RX11 98 "GuessFerryModel" "now" "[I" ∈ wsX11_records := by decide +kernel
theorem inX11_records_X11 : ∀ w ∈ u_ws RX11 TX11 58, w ∈ wsX11_records := by decide +kernel
set_option maxHeartbeats 4000000 in
set_option maxRecDepth 100000 in
theorem br_records_51 {l : Launch} {dC : Nat → ClassId} {dI : Nat → Nat → Nat} {cB cI cJ cZ cS : ClassId} {h : Nat} {a : Nat → Nat} {as : List Value} {s' : RS} {k51 : RS → Int32 → Option RS} (hk51 : ∀ (s : RS) (x1 : Int32), k51 s x1 = some s' → BlkV l yX11_records wsX11_records ({ frames := 1, cells := 0, slots := 0, locals := 21 }) cX11_records 2 none (dC, dI) (tysA cB cI cJ cZ cS) as 51 (mwS cB cI cJ cZ h a s) [(0, .ref h), (1, .int x1)] [] (fun u => u = (mwS cB cI cJ cZ h a s'))) (s : RS) (x1 : Int32) (hB : r_records_51 k51 s x1 = some s') : BlkV l yX11_records wsX11_records ({ frames := 1, cells := 0, slots := 0, locals := 21 }) cX11_records 2 none (dC, dI) (tysA cB cI cJ cZ cS) as 51 (mwS cB cI cJ cZ h a s) [(0, .ref h), (1, .int x1)] [] (fun u => u = (mwS cB cI cJ cZ h a s')) := by
  intro p e s0 m below meth c A E H locs ls hP hD hS hl
  obtain ⟨C, hr, hlocks, hA, hK, hN⟩ := id E
  obtain ⟨hx, hb, hml, hown, hts⟩ := id C
  unfold r_records_51 at hB
  refine lv_iload_n hx hb dX11_records_51 rfl (lv_at hl 1 rfl) ?_
  refine lv_bipush (v := 29) hx hb dX11_records_52 (by decide) ?_
  refine lv_icmp_ge (tgt := 83) hx hb dX11_records_54 (by decide) (fun c1 => ?_) (fun c1 => ?_)
  · have hB := if_p hB c1
    refine lv_aload_n hx hb dX11_records_83 rfl (lv_at hl 0 rfl) ?_
    refine lv_dup hx hb dX11_records_84 rfl ?_
    refine q_get (v := .int (s.v 48)) C inX11_records_X11 hK hP 0 rfl rfl 48 (by decide) rfl LX11_records_230 rfl dX11_records_85 ?_
    refine lv_iconst (v := 1) hx hb dX11_records_88 (by decide) ?_
    refine lv_iadd hx hb dX11_records_89 ?_
    obtain ⟨s2, hs3, hB⟩ := letS_inv hB
    refine q_put (ty := .int) (w2 := (mwS cB cI cJ cZ h a s2)) tyX11 tyX11_ok nmX11 C inX11_records_X11 hK hP hD hS 0 rfl rfl 48 (by decide) rfl LX11_records_230 rfl (by decide +kernel) (rfl) rfl (Nat.le_of_ble_eq_true rfl) dX11_records_90 (mwS_v48 hs3) (fun H locs hP hD hS => ?_)
    refine lv_aload_n hx hb dX11_records_93 rfl (lv_at hl 0 rfl) ?_
    obtain ⟨s4, hc, hB⟩ := bindP_inv hB
    refine q_govF (va_runV (As := []) (rest := []) C (cr_keepsRow hc _) (cwV 0 hts gX11_records_X11_keepsRow rfl rfl rfl (by decide +kernel) ⟨Nat.le_of_ble_eq_true rfl, Nat.le_of_ble_eq_true rfl⟩) (q_preV hK hP (ci := 11) (q0 := 0) rfl rfl rfl (q_preF hN hK hP hD)) rfl rfl hl.1 rfl (lv_room (Nat.le_of_ble_eq_true rfl)) dX11_records_94 ⟨Nat.le_of_ble_eq_true rfl, Nat.le_of_ble_eq_true rfl⟩) hD hS hA (fun w1 H locs hw hP hD hS => ?_)
    subst hw
    exact q_vret C hr hlocks hK hP hD hS (Nat.le_of_ble_eq_true rfl) (Nat.le_of_ble_eq_true rfl) dX11_records_97 (by cases hB; rfl)
  · have hB := if_n hB c1
    refine lv_aload_n hx hb dX11_records_57 rfl (lv_at hl 0 rfl) ?_
    refine q_get (v := .ref (a 49)) C inX11_records_X11 hK hP 0 rfl rfl 49 (by decide) rfl LX11_records_110 rfl dX11_records_58 ?_
    refine lv_bipush (v := 29) hx hb dX11_records_61 (by decide) ?_
    refine lv_aload_n hx hb dX11_records_63 rfl (lv_at hl 0 rfl) ?_
    refine q_get (v := .int (s.v 48)) C inX11_records_X11 hK hP 0 rfl rfl 48 (by decide) rfl LX11_records_230 rfl dX11_records_64 ?_
    refine lv_imul hx hb dX11_records_67 ?_
    refine lv_iload_n hx hb dX11_records_68 rfl (lv_at hl 1 rfl) ?_
    refine lv_iadd hx hb dX11_records_69 ?_
    refine lv_aload_n hx hb dX11_records_70 rfl (lv_at hl 0 rfl) ?_
    refine q_get (v := .ref (a 43)) C inX11_records_X11 hK hP 0 rfl rfl 43 (by decide) rfl LX11_records_98 rfl dX11_records_71 ?_
    refine lv_iload_n hx hb dX11_records_74 rfl (lv_at hl 1 rfl) ?_
    obtain ⟨g5, hB⟩ := guard_inv hB
    refine q_iald (x := (s.f 43 (Int32.toNatClampNeg x1))) C hK hP 27 1 rfl rfl (vpb_in g5) dX11_records_75 rfl ?_
    obtain ⟨g6, hB⟩ := guard_inv hB
    obtain ⟨s7, hs8, hB⟩ := letS_inv hB
    refine q_iast (f2 := (upd (s.f 49) (Int32.toNatClampNeg ((29 * (s.v 48)) + x1)) (s.f 43 (Int32.toNatClampNeg x1)))) (w2 := (mwS cB cI cJ cZ h a s7)) C hK hP hD hS 31 1 rfl rfl (vpb_in g6) dX11_records_76 rfl (mwS_f49 hs8) (fun H locs hP hD hS => ?_)
    refine lv_iinc (v := (x1 + 1)) (lv' := [(1, .int (x1 + 1)), (0, .ref h)]) hx hb dX11_records_77 hl (k := 1) rfl (rfl) (by decide) rfl (fun ls hl => ?_)
    refine lv_goto (tgt := 51) hx hb dX11_records_80 (by decide) ?_
    exact hk51 _ _ hB p e s0 m below meth c A E H locs ls hP hD hS (lv_sub hl [1, 0] rfl)
theorem br_records_51L {l : Launch} {dC : Nat → ClassId} {dI : Nat → Nat → Nat} {cB cI cJ cZ cS : ClassId} {h : Nat} {a : Nat → Nat} {as : List Value} {s' : RS} : ∀ (n : Nat) (s : RS) (x1 : Int32), r_records_51L n s x1 = some s' → BlkV l yX11_records wsX11_records ({ frames := 1, cells := 0, slots := 0, locals := 21 }) cX11_records 2 none (dC, dI) (tysA cB cI cJ cZ cS) as 51 (mwS cB cI cJ cZ h a s) [(0, .ref h), (1, .int x1)] [] (fun u => u = (mwS cB cI cJ cZ h a s')) := by
  intro n
  induction n with
  | zero => intro s x1 hB; exact none_ne hB
  | succ n ih => intro s x1 hB; exact br_records_51 ih _ _ hB
set_option maxHeartbeats 4000000 in
set_option maxRecDepth 100000 in
theorem br_records_49 {l : Launch} {dC : Nat → ClassId} {dI : Nat → Nat → Nat} {cB cI cJ cZ cS : ClassId} {h : Nat} {a : Nat → Nat} {as : List Value} {s' : RS} (s : RS) (hB : r_records_49 s = some s') : BlkV l yX11_records wsX11_records ({ frames := 1, cells := 0, slots := 0, locals := 21 }) cX11_records 2 none (dC, dI) (tysA cB cI cJ cZ cS) as 49 (mwS cB cI cJ cZ h a s) [(0, .ref h)] [] (fun u => u = (mwS cB cI cJ cZ h a s')) := by
  intro p e s0 m below meth c A E H locs ls hP hD hS hl
  obtain ⟨C, hr, hlocks, hA, hK, hN⟩ := id E
  obtain ⟨hx, hb, hml, hown, hts⟩ := id C
  unfold r_records_49 at hB
  refine lv_iconst (v := 0) hx hb dX11_records_49 (by decide) ?_
  refine lv_istore_n (lv' := [(1, .int 0), (0, .ref h)]) hx hb dX11_records_50 rfl hl (by decide) rfl (fun ls hl => ?_)
  exact br_records_51L fu _ _ hB p e s0 m below meth c A E H locs ls hP hD hS (lv_sub hl [1, 0] rfl)
set_option maxHeartbeats 4000000 in
set_option maxRecDepth 100000 in
theorem br_records_11 {l : Launch} {dC : Nat → ClassId} {dI : Nat → Nat → Nat} {cB cI cJ cZ cS : ClassId} {h : Nat} {a : Nat → Nat} {as : List Value} {s' : RS} {k11 : RS → Int32 → Option RS} (hk11 : ∀ (s : RS) (x1 : Int32), k11 s x1 = some s' → BlkV l yX11_records wsX11_records ({ frames := 1, cells := 0, slots := 0, locals := 21 }) cX11_records 2 none (dC, dI) (tysA cB cI cJ cZ cS) as 11 (mwS cB cI cJ cZ h a s) [(0, .ref h), (1, .int x1)] [] (fun u => u = (mwS cB cI cJ cZ h a s'))) (s : RS) (x1 : Int32) (hB : r_records_11 k11 s x1 = some s') : BlkV l yX11_records wsX11_records ({ frames := 1, cells := 0, slots := 0, locals := 21 }) cX11_records 2 none (dC, dI) (tysA cB cI cJ cZ cS) as 11 (mwS cB cI cJ cZ h a s) [(0, .ref h), (1, .int x1)] [] (fun u => u = (mwS cB cI cJ cZ h a s')) := by
  intro p e s0 m below meth c A E H locs ls hP hD hS hl
  obtain ⟨C, hr, hlocks, hA, hK, hN⟩ := id E
  obtain ⟨hx, hb, hml, hown, hts⟩ := id C
  unfold r_records_11 at hB
  refine lv_iload_n hx hb dX11_records_11 rfl (lv_at hl 1 rfl) ?_
  refine lv_sipush (v := 1131) hx hb dX11_records_12 (by decide) ?_
  refine lv_icmp_ge (tgt := 39) hx hb dX11_records_15 (by decide) (fun c1 => ?_) (fun c1 => ?_)
  · have hB := if_p hB c1
    refine lv_aload_n hx hb dX11_records_39 rfl (lv_at hl 0 rfl) ?_
    refine lv_dup hx hb dX11_records_40 rfl ?_
    refine q_get (v := .int (s.v 48)) C inX11_records_X11 hK hP 0 rfl rfl 48 (by decide) rfl LX11_records_230 rfl dX11_records_41 ?_
    refine lv_iconst (v := 1) hx hb dX11_records_44 (by decide) ?_
    refine lv_isub hx hb dX11_records_45 ?_
    obtain ⟨s2, hs3, hB⟩ := letS_inv hB
    refine q_put (ty := .int) (w2 := (mwS cB cI cJ cZ h a s2)) tyX11 tyX11_ok nmX11 C inX11_records_X11 hK hP hD hS 0 rfl rfl 48 (by decide) rfl LX11_records_230 rfl (by decide +kernel) (rfl) rfl (Nat.le_of_ble_eq_true rfl) dX11_records_46 (mwS_v48 hs3) (fun H locs hP hD hS => ?_)
    exact br_records_49 _ hB p e s0 m below meth c A E H locs ls hP hD hS (lv_sub hl [0] rfl)
  · have hB := if_n hB c1
    refine lv_aload_n hx hb dX11_records_18 rfl (lv_at hl 0 rfl) ?_
    refine q_get (v := .ref (a 49)) C inX11_records_X11 hK hP 0 rfl rfl 49 (by decide) rfl LX11_records_110 rfl dX11_records_19 ?_
    refine lv_iload_n hx hb dX11_records_22 rfl (lv_at hl 1 rfl) ?_
    refine lv_aload_n hx hb dX11_records_23 rfl (lv_at hl 0 rfl) ?_
    refine q_get (v := .ref (a 49)) C inX11_records_X11 hK hP 0 rfl rfl 49 (by decide) rfl LX11_records_110 rfl dX11_records_24 ?_
    refine lv_iload_n hx hb dX11_records_27 rfl (lv_at hl 1 rfl) ?_
    refine lv_bipush (v := 29) hx hb dX11_records_28 (by decide) ?_
    refine lv_iadd hx hb dX11_records_30 ?_
    obtain ⟨g4, hB⟩ := guard_inv hB
    refine q_iald (x := (s.f 49 (Int32.toNatClampNeg (x1 + 29)))) C hK hP 31 1 rfl rfl (vpb_in g4) dX11_records_31 rfl ?_
    obtain ⟨g5, hB⟩ := guard_inv hB
    obtain ⟨s6, hs7, hB⟩ := letS_inv hB
    refine q_iast (f2 := (upd (s.f 49) (Int32.toNatClampNeg x1) (s.f 49 (Int32.toNatClampNeg (x1 + 29))))) (w2 := (mwS cB cI cJ cZ h a s6)) C hK hP hD hS 31 1 rfl rfl (vpb_in g5) dX11_records_32 rfl (mwS_f49 hs7) (fun H locs hP hD hS => ?_)
    refine lv_iinc (v := (x1 + 1)) (lv' := [(1, .int (x1 + 1)), (0, .ref h)]) hx hb dX11_records_33 hl (k := 1) rfl (rfl) (by decide) rfl (fun ls hl => ?_)
    refine lv_goto (tgt := 11) hx hb dX11_records_36 (by decide) ?_
    exact hk11 _ _ hB p e s0 m below meth c A E H locs ls hP hD hS (lv_sub hl [1, 0] rfl)
theorem br_records_11L {l : Launch} {dC : Nat → ClassId} {dI : Nat → Nat → Nat} {cB cI cJ cZ cS : ClassId} {h : Nat} {a : Nat → Nat} {as : List Value} {s' : RS} : ∀ (n : Nat) (s : RS) (x1 : Int32), r_records_11L n s x1 = some s' → BlkV l yX11_records wsX11_records ({ frames := 1, cells := 0, slots := 0, locals := 21 }) cX11_records 2 none (dC, dI) (tysA cB cI cJ cZ cS) as 11 (mwS cB cI cJ cZ h a s) [(0, .ref h), (1, .int x1)] [] (fun u => u = (mwS cB cI cJ cZ h a s')) := by
  intro n
  induction n with
  | zero => intro s x1 hB; exact none_ne hB
  | succ n ih => intro s x1 hB; exact br_records_11 ih _ _ hB
set_option maxHeartbeats 4000000 in
set_option maxRecDepth 100000 in
theorem br_records {l : Launch} {dC : Nat → ClassId} {dI : Nat → Nat → Nat} {cB cI cJ cZ cS : ClassId} {h : Nat} {a : Nat → Nat} {as : List Value} {s' : RS} (s : RS) (hB : r_records s = some s') : BlkV l yX11_records wsX11_records ({ frames := 1, cells := 0, slots := 0, locals := 21 }) cX11_records 2 none (dC, dI) (tysA cB cI cJ cZ cS) as 0 (mwS cB cI cJ cZ h a s) [(0, .ref h)] [] (fun u => u = (mwS cB cI cJ cZ h a s')) := by
  intro p e s0 m below meth c A E H locs ls hP hD hS hl
  obtain ⟨C, hr, hlocks, hA, hK, hN⟩ := id E
  obtain ⟨hx, hb, hml, hown, hts⟩ := id C
  unfold r_records at hB
  refine lv_aload_n hx hb dX11_records_0 rfl (lv_at hl 0 rfl) ?_
  refine q_get (v := .int (s.v 48)) C inX11_records_X11 hK hP 0 rfl rfl 48 (by decide) rfl LX11_records_230 rfl dX11_records_1 ?_
  refine lv_bipush (v := 40) hx hb dX11_records_4 (by decide) ?_
  refine lv_icmp_ne (tgt := 49) hx hb dX11_records_6 (by decide) (fun c1 => ?_) (fun c1 => ?_)
  · have hB := if_n hB c1
    exact br_records_49 _ hB p e s0 m below meth c A E H locs ls hP hD hS (lv_sub hl [0] rfl)
  · have hB := if_p hB c1
    refine lv_iconst (v := 0) hx hb dX11_records_9 (by decide) ?_
    refine lv_istore_n (lv' := [(1, .int 0), (0, .ref h)]) hx hb dX11_records_10 rfl hl (by decide) rfl (fun ls hl => ?_)
    exact br_records_11L fu _ _ hB p e s0 m below meth c A E H locs ls hP hD hS (lv_sub hl [1, 0] rfl)
theorem cr_records {l : Launch} {dC : Nat → ClassId} {dI : Nat → Nat → Nat} {cB cI cJ cZ cS : ClassId} {h : Nat} {a : Nat → Nat} {s' : RS} {s : RS} (hB : r_records s = some s') : CV l yX11_records wsX11_records ({ frames := 1, cells := 0, slots := 0, locals := 21 }) (dC, dI) (tysA cB cI cJ cZ cS) (mwS cB cI cJ cZ h a s) [.ref h] (fun u => u = (mwS cB cI cJ cZ h a s')) :=
  CV_of (cc := cX11_records) (maxL := 2) (ret := none) (by decide) rfl (Nat.le_of_ble_eq_true rfl) (br_records _ hB)
theorem LX11_isHere_98 : Cond.fieldLink RX11 98 "GuessFerryModel" "now" "[I" ∈ wsX11_isHere := by decide +kernel
theorem inX11_isHere_X11 : ∀ w ∈ u_ws RX11 TX11 58, w ∈ wsX11_isHere := by decide +kernel
set_option maxHeartbeats 4000000 in
set_option maxRecDepth 100000 in
theorem br_isHere {l : Launch} {dC : Nat → ClassId} {dI : Nat → Nat → Nat} {cB cI cJ cZ cS : ClassId} {h : Nat} {a : Nat → Nat} {as : List Value} {r : Int32} {s' : RS} (s : RS) (x1 : Int32) (hB : r_isHere s x1 = some (r, s')) : BlkI l yX11_isHere wsX11_isHere ({ frames := 2, cells := 0, slots := 0, locals := 43 }) cX11_isHere 2 (some .boolean) (dC, dI) (tysA cB cI cJ cZ cS) as 0 (mwS cB cI cJ cZ h a s) [(0, .ref h), (1, .int x1)] [] (fun x u => x = r ∧ u = (mwS cB cI cJ cZ h a s')) := by
  intro p e s0 m below meth c A E H locs ls hP hD hS hl
  obtain ⟨C, hr, hlocks, hA, hK, hN⟩ := id E
  obtain ⟨hx, hb, hml, hown, hts⟩ := id C
  unfold r_isHere at hB
  refine lv_aload_n hx hb dX11_isHere_0 rfl (lv_at hl 0 rfl) ?_
  refine lv_iload_n hx hb dX11_isHere_1 rfl (lv_at hl 1 rfl) ?_
  obtain ⟨q_, s1, hc, hB⟩ := bindI_inv hB
  refine q_goiF (va_runV (As := [.int x1]) (rest := []) C (cr_isParty hc _) (cwV 1 hts gX11_isHere_X11_isParty rfl rfl rfl (by decide +kernel) ⟨Nat.le_of_ble_eq_true rfl, Nat.le_of_ble_eq_true rfl⟩) (q_preV hK hP (ci := 11) (q0 := 0) rfl rfl rfl (q_preF hN hK hP hD)) rfl rfl hl.1 rfl (lv_room (Nat.le_of_ble_eq_true rfl)) dX11_isHere_2 ⟨Nat.le_of_ble_eq_true rfl, Nat.le_of_ble_eq_true rfl⟩) hD hS hA (fun r2 w1 H locs hw hP hD hS => ?_)
  obtain ⟨hq_, hw⟩ := hw; subst hw; subst hq_
  refine lv_if_eq (tgt := 24) hx hb dX11_isHere_5 (by decide) (fun c3 => ?_) (fun c3 => ?_)
  · have hB := if_p hB c3
    refine lv_iconst (v := 0) hx hb dX11_isHere_24 (by decide) ?_
    exact q_zret C hr hlocks (Or.inl rfl) hK hP hD hS (Nat.le_of_ble_eq_true rfl) (Nat.le_of_ble_eq_true rfl) dX11_isHere_25 (by cases hB; exact ⟨rfl, rfl⟩)
  · have hB := if_n hB c3
    refine lv_aload_n hx hb dX11_isHere_8 rfl (lv_at hl 0 rfl) ?_
    refine q_get (v := .ref (a 43)) C inX11_isHere_X11 hK hP 0 rfl rfl 43 (by decide) rfl LX11_isHere_98 rfl dX11_isHere_9 ?_
    refine lv_bipush (v := 15) hx hb dX11_isHere_12 (by decide) ?_
    refine lv_iload_n hx hb dX11_isHere_14 rfl (lv_at hl 1 rfl) ?_
    refine lv_iadd hx hb dX11_isHere_15 ?_
    obtain ⟨g4, hB⟩ := guard_inv hB
    refine q_iald (x := (s1.f 43 (Int32.toNatClampNeg (15 + x1)))) C hK hP 27 1 rfl rfl (vpb_in g4) dX11_isHere_16 rfl ?_
    refine lv_if_ne (tgt := 24) hx hb dX11_isHere_17 (by decide) (fun c5 => ?_) (fun c5 => ?_)
    · have hB := if_n hB c5
      refine lv_iconst (v := 0) hx hb dX11_isHere_24 (by decide) ?_
      exact q_zret C hr hlocks (Or.inl rfl) hK hP hD hS (Nat.le_of_ble_eq_true rfl) (Nat.le_of_ble_eq_true rfl) dX11_isHere_25 (by cases hB; exact ⟨rfl, rfl⟩)
    · have hB := if_p hB c5
      refine lv_iconst (v := 1) hx hb dX11_isHere_20 (by decide) ?_
      refine lv_goto (tgt := 25) hx hb dX11_isHere_21 (by decide) ?_
      exact q_zret C hr hlocks (Or.inr rfl) hK hP hD hS (Nat.le_of_ble_eq_true rfl) (Nat.le_of_ble_eq_true rfl) dX11_isHere_25 (by cases hB; exact ⟨rfl, rfl⟩)
theorem cr_isHere {l : Launch} {dC : Nat → ClassId} {dI : Nat → Nat → Nat} {cB cI cJ cZ cS : ClassId} {h : Nat} {a : Nat → Nat} {r : Int32} {s' : RS} {s : RS} {x1 : Int32} (hB : r_isHere s x1 = some (r, s')) : CI l yX11_isHere wsX11_isHere ({ frames := 2, cells := 0, slots := 0, locals := 43 }) (dC, dI) (tysA cB cI cJ cZ cS) (mwS cB cI cJ cZ h a s) [.ref h, .int x1] (fun x u => x = r ∧ u = (mwS cB cI cJ cZ h a s')) :=
  CI_of (cc := cX11_isHere) (maxL := 2) (ret := (some .boolean)) (by decide) rfl (Nat.le_of_ble_eq_true rfl) (br_isHere _ _ hB)
theorem LX11_go_215 : Cond.fieldLink RX11 215 "GuessFerryModel" "live" "I" ∈ wsX11_go := by decide +kernel
theorem LX11_go_40 : Cond.fieldLink RX11 40 "GuessFerryModel" "waves" "[I" ∈ wsX11_go := by decide +kernel
theorem inX11_go_X11 : ∀ w ∈ u_ws RX11 TX11 58, w ∈ wsX11_go := by decide +kernel
set_option maxHeartbeats 4000000 in
set_option maxRecDepth 100000 in
theorem br_go {l : Launch} {dC : Nat → ClassId} {dI : Nat → Nat → Nat} {cB cI cJ cZ cS : ClassId} {h : Nat} {a : Nat → Nat} {as : List Value} {r : Int32} {s' : RS} (s : RS) (x1 : Int32) (x2 : Int32) (hB : r_go s x1 x2 = some (r, s')) : BlkI l yX11_go wsX11_go ({ frames := 7, cells := 0, slots := 0, locals := 161 }) cX11_go 4 (some .int) (dC, dI) (tysA cB cI cJ cZ cS) as 0 (mwS cB cI cJ cZ h a s) [(0, .ref h), (1, .int x1), (2, .int x2)] [] (fun x u => x = r ∧ u = (mwS cB cI cJ cZ h a s')) := by
  intro p e s0 m below meth c A E H locs ls hP hD hS hl
  obtain ⟨C, hr, hlocks, hA, hK, hN⟩ := id E
  obtain ⟨hx, hb, hml, hown, hts⟩ := id C
  unfold r_go at hB
  refine lv_aload_n hx hb dX11_go_0 rfl (lv_at hl 0 rfl) ?_
  refine lv_iload_n hx hb dX11_go_1 rfl (lv_at hl 1 rfl) ?_
  obtain ⟨q_, s1, hc, hB⟩ := bindI_inv hB
  refine q_goiF (va_runV (As := [.int x1]) (rest := []) C (cr_isHere hc _) (cwV 1 hts gX11_go_X11_isHere rfl rfl rfl (by decide +kernel) ⟨Nat.le_of_ble_eq_true rfl, Nat.le_of_ble_eq_true rfl⟩) (q_preV hK hP (ci := 11) (q0 := 0) rfl rfl rfl (q_preF hN hK hP hD)) rfl rfl hl.1 rfl (lv_room (Nat.le_of_ble_eq_true rfl)) dX11_go_2 ⟨Nat.le_of_ble_eq_true rfl, Nat.le_of_ble_eq_true rfl⟩) hD hS hA (fun r2 w1 H locs hw hP hD hS => ?_)
  obtain ⟨hq_, hw⟩ := hw; subst hw; subst hq_
  refine lv_if_eq (tgt := 28) hx hb dX11_go_5 (by decide) (fun c3 => ?_) (fun c3 => ?_)
  · have hB := if_p hB c3
    refine lv_iconst (v := (-1)) hx hb dX11_go_28 (by decide) ?_
    exact q_iret C hr hlocks hK hP hD hS (Nat.le_of_ble_eq_true rfl) (Nat.le_of_ble_eq_true rfl) dX11_go_29 (by cases hB; exact ⟨rfl, rfl⟩)
  · have hB := if_n hB c3
    refine lv_aload_n hx hb dX11_go_8 rfl (lv_at hl 0 rfl) ?_
    refine q_get (v := .ref (a 20)) C inX11_go_X11 hK hP 0 rfl rfl 20 (by decide) rfl LX11_go_40 rfl dX11_go_9 ?_
    refine lv_aload_n hx hb dX11_go_12 rfl (lv_at hl 0 rfl) ?_
    refine q_get (v := .int (s1.v 18)) C inX11_go_X11 hK hP 0 rfl rfl 18 (by decide) rfl LX11_go_215 rfl dX11_go_13 ?_
    obtain ⟨g4, hB⟩ := guard_inv hB
    refine q_iald (x := (s1.f 20 (Int32.toNatClampNeg (s1.v 18)))) C hK hP 8 1 rfl rfl (vpb_in g4) dX11_go_16 rfl ?_
    refine lv_if_eq (tgt := 28) hx hb dX11_go_17 (by decide) (fun c5 => ?_) (fun c5 => ?_)
    · have hB := if_p hB c5
      refine lv_iconst (v := (-1)) hx hb dX11_go_28 (by decide) ?_
      exact q_iret C hr hlocks hK hP hD hS (Nat.le_of_ble_eq_true rfl) (Nat.le_of_ble_eq_true rfl) dX11_go_29 (by cases hB; exact ⟨rfl, rfl⟩)
    · have hB := if_n hB c5
      refine lv_aload_n hx hb dX11_go_20 rfl (lv_at hl 0 rfl) ?_
      refine lv_iload_n hx hb dX11_go_21 rfl (lv_at hl 2 rfl) ?_
      obtain ⟨q_, s6, hc, hB⟩ := bindI_inv hB
      refine q_goiF (va_runV (As := [.int x2]) (rest := []) C (cr_isGuess hc _) (cwV 1 hts gX11_go_X11_isGuess rfl rfl rfl (by decide +kernel) ⟨Nat.le_of_ble_eq_true rfl, Nat.le_of_ble_eq_true rfl⟩) (q_preV hK hP (ci := 11) (q0 := 0) rfl rfl rfl (q_preF hN hK hP hD)) rfl rfl hl.1 rfl (lv_room (Nat.le_of_ble_eq_true rfl)) dX11_go_22 ⟨Nat.le_of_ble_eq_true rfl, Nat.le_of_ble_eq_true rfl⟩) hD hS hA (fun r7 w1 H locs hw hP hD hS => ?_)
      obtain ⟨hq_, hw⟩ := hw; subst hw; subst hq_
      refine lv_if_ne (tgt := 30) hx hb dX11_go_25 (by decide) (fun c8 => ?_) (fun c8 => ?_)
      · have hB := if_n hB c8
        refine lv_aload_n hx hb dX11_go_30 rfl (lv_at hl 0 rfl) ?_
        obtain ⟨s9, hc, hB⟩ := bindP_inv hB
        refine q_govF (va_runV (As := []) (rest := []) C (cr_copies hc _) (cwV 0 hts gX11_go_X11_copies rfl rfl rfl (by decide +kernel) ⟨Nat.le_of_ble_eq_true rfl, Nat.le_of_ble_eq_true rfl⟩) (q_preV hK hP (ci := 11) (q0 := 0) rfl rfl rfl (q_preF hN hK hP hD)) rfl rfl hl.1 rfl (lv_room (Nat.le_of_ble_eq_true rfl)) dX11_go_31 ⟨Nat.le_of_ble_eq_true rfl, Nat.le_of_ble_eq_true rfl⟩) hD hS hA (fun w1 H locs hw hP hD hS => ?_)
        subst hw
        refine lv_aload_n hx hb dX11_go_34 rfl (lv_at hl 0 rfl) ?_
        refine lv_iload_n hx hb dX11_go_35 rfl (lv_at hl 1 rfl) ?_
        refine lv_iload_n hx hb dX11_go_36 rfl (lv_at hl 2 rfl) ?_
        refine lv_aload_n hx hb dX11_go_37 rfl (lv_at hl 0 rfl) ?_
        obtain ⟨q_, s10, hc, hB⟩ := bindI_inv hB
        refine q_goiF (va_runV (As := []) (rest := [.int x2, .int x1, .ref h]) C (cr_thereNumber hc _) (cwV 0 hts gX11_go_X11_thereNumber rfl rfl rfl (by decide +kernel) ⟨Nat.le_of_ble_eq_true rfl, Nat.le_of_ble_eq_true rfl⟩) (q_preV hK hP (ci := 11) (q0 := 0) rfl rfl rfl (q_preF hN hK hP hD)) rfl rfl hl.1 rfl (lv_room (Nat.le_of_ble_eq_true rfl)) dX11_go_38 ⟨Nat.le_of_ble_eq_true rfl, Nat.le_of_ble_eq_true rfl⟩) hD hS hA (fun r11 w1 H locs hw hP hD hS => ?_)
        obtain ⟨hq_, hw⟩ := hw; subst hw; subst hq_
        obtain ⟨q_, s12, hc, hB⟩ := bindI_inv hB
        refine q_goiF (va_runV (As := [.int x1, .int x2, .int r11]) (rest := []) C (cr_goesBy hc _) (cwV 3 hts gX11_go_X11_goesBy rfl rfl rfl (by decide +kernel) ⟨Nat.le_of_ble_eq_true rfl, Nat.le_of_ble_eq_true rfl⟩) (q_preV hK hP (ci := 11) (q0 := 0) rfl rfl rfl (q_preF hN hK hP hD)) rfl rfl hl.1 rfl (lv_room (Nat.le_of_ble_eq_true rfl)) dX11_go_41 ⟨Nat.le_of_ble_eq_true rfl, Nat.le_of_ble_eq_true rfl⟩) hD hS hA (fun r13 w1 H locs hw hP hD hS => ?_)
        obtain ⟨hq_, hw⟩ := hw; subst hw; subst hq_
        refine lv_istore_n (lv' := [(3, .int r13), (0, .ref h), (1, .int x1), (2, .int x2)]) hx hb dX11_go_44 rfl hl (by decide) rfl (fun ls hl => ?_)
        refine lv_aload_n hx hb dX11_go_45 rfl (lv_at hl 1 rfl) ?_
        obtain ⟨s14, hc, hB⟩ := bindP_inv hB
        refine q_govF (va_runV (As := []) (rest := []) C (cr_records hc _) (cwV 0 hts gX11_go_X11_records rfl rfl rfl (by decide +kernel) ⟨Nat.le_of_ble_eq_true rfl, Nat.le_of_ble_eq_true rfl⟩) (q_preV hK hP (ci := 11) (q0 := 0) rfl rfl rfl (q_preF hN hK hP hD)) rfl rfl hl.1 rfl (lv_room (Nat.le_of_ble_eq_true rfl)) dX11_go_46 ⟨Nat.le_of_ble_eq_true rfl, Nat.le_of_ble_eq_true rfl⟩) hD hS hA (fun w1 H locs hw hP hD hS => ?_)
        subst hw
        refine lv_iload_n hx hb dX11_go_49 rfl (lv_at hl 0 rfl) ?_
        exact q_iret C hr hlocks hK hP hD hS (Nat.le_of_ble_eq_true rfl) (Nat.le_of_ble_eq_true rfl) dX11_go_50 (by cases hB; exact ⟨rfl, rfl⟩)
      · have hB := if_p hB c8
        refine lv_iconst (v := (-1)) hx hb dX11_go_28 (by decide) ?_
        exact q_iret C hr hlocks hK hP hD hS (Nat.le_of_ble_eq_true rfl) (Nat.le_of_ble_eq_true rfl) dX11_go_29 (by cases hB; exact ⟨rfl, rfl⟩)
theorem cr_go {l : Launch} {dC : Nat → ClassId} {dI : Nat → Nat → Nat} {cB cI cJ cZ cS : ClassId} {h : Nat} {a : Nat → Nat} {r : Int32} {s' : RS} {s : RS} {x1 : Int32} {x2 : Int32} (hB : r_go s x1 x2 = some (r, s')) : CI l yX11_go wsX11_go ({ frames := 7, cells := 0, slots := 0, locals := 161 }) (dC, dI) (tysA cB cI cJ cZ cS) (mwS cB cI cJ cZ h a s) [.ref h, .int x1, .int x2] (fun x u => x = r ∧ u = (mwS cB cI cJ cZ h a s')) :=
  CI_of (cc := cX11_go) (maxL := 4) (ret := (some .int)) (by decide) rfl (Nat.le_of_ble_eq_true rfl) (br_go _ _ _ hB)
theorem LX11_buoy_101 : Cond.fieldLink RX11 101 "GuessFerryModel" "row" "[I" ∈ wsX11_buoy := by decide +kernel
theorem LX11_buoy_98 : Cond.fieldLink RX11 98 "GuessFerryModel" "now" "[I" ∈ wsX11_buoy := by decide +kernel
theorem inX11_buoy_X11 : ∀ w ∈ u_ws RX11 TX11 58, w ∈ wsX11_buoy := by decide +kernel
set_option maxHeartbeats 4000000 in
set_option maxRecDepth 100000 in
theorem br_buoy_34 {l : Launch} {dC : Nat → ClassId} {dI : Nat → Nat → Nat} {cB cI cJ cZ cS : ClassId} {h : Nat} {a : Nat → Nat} {as : List Value} {r : Int32} {s' : RS} (s : RS) (x1 : Int32) (x2 : Int32) (x3 : Int32) (t0 : Int32) (hB : r_buoy_34 s x1 x2 x3 t0 = some (r, s')) : BlkI l yX11_buoy wsX11_buoy ({ frames := 2, cells := 0, slots := 0, locals := 43 }) cX11_buoy 4 (some .boolean) (dC, dI) (tysA cB cI cJ cZ cS) as 34 (mwS cB cI cJ cZ h a s) [(0, .ref h), (1, .int x1), (2, .int x2), (3, .int x3)] [.int t0] (fun x u => x = r ∧ u = (mwS cB cI cJ cZ h a s')) := by
  intro p e s0 m below meth c A E H locs ls hP hD hS hl
  obtain ⟨C, hr, hlocks, hA, hK, hN⟩ := id E
  obtain ⟨hx, hb, hml, hown, hts⟩ := id C
  unfold r_buoy_34 at hB
  refine lv_iload_n hx hb dX11_buoy_34 rfl (lv_at hl 3 rfl) ?_
  refine lv_icmp_ne (tgt := 40) hx hb dX11_buoy_35 (by decide) (fun c1 => ?_) (fun c1 => ?_)
  · have hB := if_n hB c1
    refine lv_aload_n hx hb dX11_buoy_40 rfl (lv_at hl 0 rfl) ?_
    obtain ⟨s2, hc, hB⟩ := bindP_inv hB
    refine q_govF (va_runV (As := []) (rest := []) C (cr_copies hc _) (cwV 0 hts gX11_buoy_X11_copies rfl rfl rfl (by decide +kernel) ⟨Nat.le_of_ble_eq_true rfl, Nat.le_of_ble_eq_true rfl⟩) (q_preV hK hP (ci := 11) (q0 := 0) rfl rfl rfl (q_preF hN hK hP hD)) rfl rfl hl.1 rfl (lv_room (Nat.le_of_ble_eq_true rfl)) dX11_buoy_41 ⟨Nat.le_of_ble_eq_true rfl, Nat.le_of_ble_eq_true rfl⟩) hD hS hA (fun w1 H locs hw hP hD hS => ?_)
    subst hw
    refine lv_aload_n hx hb dX11_buoy_44 rfl (lv_at hl 0 rfl) ?_
    refine q_get (v := .ref (a 44)) C inX11_buoy_X11 hK hP 0 rfl rfl 44 (by decide) rfl LX11_buoy_101 rfl dX11_buoy_45 ?_
    refine lv_iload_n hx hb dX11_buoy_48 rfl (lv_at hl 1 rfl) ?_
    refine lv_dup2_11 hx hb dX11_buoy_49 rfl rfl ?_
    obtain ⟨g3, hB⟩ := guard_inv hB
    refine q_iald (x := (s2.f 44 (Int32.toNatClampNeg x1))) C hK hP 28 1 rfl rfl (vpb_in g3) dX11_buoy_50 rfl ?_
    refine lv_iconst (v := 1) hx hb dX11_buoy_51 (by decide) ?_
    refine lv_iload_n hx hb dX11_buoy_52 rfl (lv_at hl 2 rfl) ?_
    refine lv_ishl hx hb dX11_buoy_53 ?_
    refine lv_ixor hx hb dX11_buoy_54 ?_
    obtain ⟨g4, hB⟩ := guard_inv hB
    obtain ⟨s5, hs6, hB⟩ := letS_inv hB
    refine q_iast (f2 := (upd (s2.f 44) (Int32.toNatClampNeg x1) ((s2.f 44 (Int32.toNatClampNeg x1)) ^^^ (1 <<< (x2 &&& 31))))) (w2 := (mwS cB cI cJ cZ h a s5)) C hK hP hD hS 28 1 rfl rfl (vpb_in g4) dX11_buoy_55 rfl (mwS_f44 hs6) (fun H locs hP hD hS => ?_)
    refine lv_aload_n hx hb dX11_buoy_56 rfl (lv_at hl 0 rfl) ?_
    obtain ⟨s7, hc, hB⟩ := bindP_inv hB
    refine q_govF (va_runV (As := []) (rest := []) C (cr_records hc _) (cwV 0 hts gX11_buoy_X11_records rfl rfl rfl (by decide +kernel) ⟨Nat.le_of_ble_eq_true rfl, Nat.le_of_ble_eq_true rfl⟩) (q_preV hK hP (ci := 11) (q0 := 0) rfl rfl rfl (q_preF hN hK hP hD)) rfl rfl hl.1 rfl (lv_room (Nat.le_of_ble_eq_true rfl)) dX11_buoy_57 ⟨Nat.le_of_ble_eq_true rfl, Nat.le_of_ble_eq_true rfl⟩) hD hS hA (fun w1 H locs hw hP hD hS => ?_)
    subst hw
    refine lv_iconst (v := 1) hx hb dX11_buoy_60 (by decide) ?_
    exact q_zret C hr hlocks (Or.inr rfl) hK hP hD hS (Nat.le_of_ble_eq_true rfl) (Nat.le_of_ble_eq_true rfl) dX11_buoy_61 (by cases hB; exact ⟨rfl, rfl⟩)
  · have hB := if_p hB c1
    refine lv_iconst (v := 0) hx hb dX11_buoy_38 (by decide) ?_
    exact q_zret C hr hlocks (Or.inl rfl) hK hP hD hS (Nat.le_of_ble_eq_true rfl) (Nat.le_of_ble_eq_true rfl) dX11_buoy_39 (by cases hB; exact ⟨rfl, rfl⟩)
set_option maxHeartbeats 4000000 in
set_option maxRecDepth 100000 in
theorem br_buoy {l : Launch} {dC : Nat → ClassId} {dI : Nat → Nat → Nat} {cB cI cJ cZ cS : ClassId} {h : Nat} {a : Nat → Nat} {as : List Value} {r : Int32} {s' : RS} (s : RS) (x1 : Int32) (x2 : Int32) (x3 : Int32) (hB : r_buoy s x1 x2 x3 = some (r, s')) : BlkI l yX11_buoy wsX11_buoy ({ frames := 2, cells := 0, slots := 0, locals := 43 }) cX11_buoy 4 (some .boolean) (dC, dI) (tysA cB cI cJ cZ cS) as 0 (mwS cB cI cJ cZ h a s) [(0, .ref h), (1, .int x1), (2, .int x2), (3, .int x3)] [] (fun x u => x = r ∧ u = (mwS cB cI cJ cZ h a s')) := by
  intro p e s0 m below meth c A E H locs ls hP hD hS hl
  obtain ⟨C, hr, hlocks, hA, hK, hN⟩ := id E
  obtain ⟨hx, hb, hml, hown, hts⟩ := id C
  unfold r_buoy at hB
  refine lv_aload_n hx hb dX11_buoy_0 rfl (lv_at hl 0 rfl) ?_
  refine lv_iload_n hx hb dX11_buoy_1 rfl (lv_at hl 1 rfl) ?_
  obtain ⟨q_, s1, hc, hB⟩ := bindI_inv hB
  refine q_goiF (va_runV (As := [.int x1]) (rest := []) C (cr_isWave hc _) (cwV 1 hts gX11_buoy_X11_isWave rfl rfl rfl (by decide +kernel) ⟨Nat.le_of_ble_eq_true rfl, Nat.le_of_ble_eq_true rfl⟩) (q_preV hK hP (ci := 11) (q0 := 0) rfl rfl rfl (q_preF hN hK hP hD)) rfl rfl hl.1 rfl (lv_room (Nat.le_of_ble_eq_true rfl)) dX11_buoy_2 ⟨Nat.le_of_ble_eq_true rfl, Nat.le_of_ble_eq_true rfl⟩) hD hS hA (fun r2 w1 H locs hw hP hD hS => ?_)
  obtain ⟨hq_, hw⟩ := hw; subst hw; subst hq_
  refine lv_if_eq (tgt := 38) hx hb dX11_buoy_5 (by decide) (fun c3 => ?_) (fun c3 => ?_)
  · have hB := if_p hB c3
    refine lv_iconst (v := 0) hx hb dX11_buoy_38 (by decide) ?_
    exact q_zret C hr hlocks (Or.inl rfl) hK hP hD hS (Nat.le_of_ble_eq_true rfl) (Nat.le_of_ble_eq_true rfl) dX11_buoy_39 (by cases hB; exact ⟨rfl, rfl⟩)
  · have hB := if_n hB c3
    refine lv_iload_n hx hb dX11_buoy_8 rfl (lv_at hl 2 rfl) ?_
    obtain ⟨q_, hc, hB⟩ := bindP_inv hB
    refine q_goi0 (va_runS (As := [.int x2]) (rest := []) C (cr_isThing hc _) (va_cwS 1 hts gX11_buoy_X11_isThing rfl rfl rfl (by decide +kernel) ⟨Nat.le_of_ble_eq_true rfl, Nat.le_of_ble_eq_true rfl⟩) (q_pre0 hN hK) rfl rfl hl.1 rfl (lv_room (Nat.le_of_ble_eq_true rfl)) dX11_buoy_9 ⟨Nat.le_of_ble_eq_true rfl, Nat.le_of_ble_eq_true rfl⟩) hP hD hS hA (fun r4 w1 H locs hw hP hS => ?_)
    subst hw
    refine lv_if_eq (tgt := 38) hx hb dX11_buoy_12 (by decide) (fun c5 => ?_) (fun c5 => ?_)
    · have hB := if_p hB c5
      refine lv_iconst (v := 0) hx hb dX11_buoy_38 (by decide) ?_
      exact q_zret C hr hlocks (Or.inl rfl) hK hP hD hS (Nat.le_of_ble_eq_true rfl) (Nat.le_of_ble_eq_true rfl) dX11_buoy_39 (by cases hB; exact ⟨rfl, rfl⟩)
    · have hB := if_n hB c5
      refine lv_aload_n hx hb dX11_buoy_15 rfl (lv_at hl 0 rfl) ?_
      refine q_get (v := .ref (a 43)) C inX11_buoy_X11 hK hP 0 rfl rfl 43 (by decide) rfl LX11_buoy_98 rfl dX11_buoy_16 ?_
      refine lv_iload_n hx hb dX11_buoy_19 rfl (lv_at hl 1 rfl) ?_
      obtain ⟨g6, hB⟩ := guard_inv hB
      refine q_iald (x := (s1.f 43 (Int32.toNatClampNeg x1))) C hK hP 27 1 rfl rfl (vpb_in g6) dX11_buoy_20 rfl ?_
      refine lv_iload_n hx hb dX11_buoy_21 rfl (lv_at hl 2 rfl) ?_
      refine lv_ishr hx hb dX11_buoy_22 ?_
      refine lv_iconst (v := 1) hx hb dX11_buoy_23 (by decide) ?_
      refine lv_iand hx hb dX11_buoy_24 ?_
      refine lv_iconst (v := 1) hx hb dX11_buoy_25 (by decide) ?_
      refine lv_icmp_ne (tgt := 33) hx hb dX11_buoy_26 (by decide) (fun c7 => ?_) (fun c7 => ?_)
      · have hB := if_n hB c7
        refine lv_iconst (v := 0) hx hb dX11_buoy_33 (by decide) ?_
        exact br_buoy_34 _ _ _ _ _ hB p e s0 m below meth c A E H locs ls hP hD hS (lv_sub hl [0, 1, 2, 3] rfl)
      · have hB := if_p hB c7
        refine lv_iconst (v := 1) hx hb dX11_buoy_29 (by decide) ?_
        refine lv_goto (tgt := 34) hx hb dX11_buoy_30 (by decide) ?_
        exact br_buoy_34 _ _ _ _ _ hB p e s0 m below meth c A E H locs ls hP hD hS (lv_sub hl [0, 1, 2, 3] rfl)
theorem cr_buoy {l : Launch} {dC : Nat → ClassId} {dI : Nat → Nat → Nat} {cB cI cJ cZ cS : ClassId} {h : Nat} {a : Nat → Nat} {r : Int32} {s' : RS} {s : RS} {x1 : Int32} {x2 : Int32} {x3 : Int32} (hB : r_buoy s x1 x2 x3 = some (r, s')) : CI l yX11_buoy wsX11_buoy ({ frames := 2, cells := 0, slots := 0, locals := 43 }) (dC, dI) (tysA cB cI cJ cZ cS) (mwS cB cI cJ cZ h a s) [.ref h, .int x1, .int x2, .int x3] (fun x u => x = r ∧ u = (mwS cB cI cJ cZ h a s')) :=
  CI_of (cc := cX11_buoy) (maxL := 4) (ret := (some .boolean)) (by decide) rfl (Nat.le_of_ble_eq_true rfl) (br_buoy _ _ _ _ hB)
