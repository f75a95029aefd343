theorem ggX11_sure_X11_isHere : GoodIn wsX11_sure wsX11_isHere := gi_sub (fun w h => List.mem_cons_of_mem _ (List.mem_append_left _ (List.mem_append_right _ (List.mem_append_left _ h)))) gd_wsX11_isHere
set_option maxRecDepth 20000 in
theorem gX11_sure_X11_isHere : GoodIn wsX11_sure (wsV RX11 364 RX11 yX11_isHere wsX11_isHere) := goodIn_app (goodIn_r _ [4, 5, 6, 7] (by decide +kernel) (by decide +kernel)) ggX11_sure_X11_isHere
theorem ggX11_sure_X11_in : GoodIn wsX11_sure wsX11_in := gi_sub (fun w h => List.mem_cons_of_mem _ (List.mem_append_left _ (List.mem_append_right _ (List.mem_append_right _ (List.mem_append_left _ h))))) gd_wsX11_in
set_option maxRecDepth 20000 in
theorem gX11_sure_X11_in : GoodIn wsX11_sure (va_wsS RX11 281 yX11_in wsX11_in) := goodIn_app (goodIn_of _ (by decide +kernel)) ggX11_sure_X11_in
theorem ggX11_sure_X11_fillsChances : GoodIn wsX11_sure wsX11_fillsChances := gi_sub (fun w h => List.mem_cons_of_mem _ (List.mem_append_left _ (List.mem_append_right _ (List.mem_append_right _ (List.mem_append_right _ (List.mem_append_left _ h)))))) gd_wsX11_fillsChances
set_option maxRecDepth 20000 in
theorem gX11_sure_X11_fillsChances : GoodIn wsX11_sure (wsV RX11 404 RX11 yX11_fillsChances wsX11_fillsChances) := goodIn_app (goodIn_r _ [10, 11, 12, 7] (by decide +kernel) (by decide +kernel)) ggX11_sure_X11_fillsChances
theorem ggX11_sure_X11_guesses : GoodIn wsX11_sure wsX11_guesses := gi_sub (fun w h => List.mem_cons_of_mem _ (List.mem_append_left _ (List.mem_append_right _ (List.mem_append_right _ (List.mem_append_right _ (List.mem_append_right _ (List.mem_append_left _ h))))))) gd_wsX11_guesses
set_option maxRecDepth 20000 in
theorem gX11_sure_X11_guesses : GoodIn wsX11_sure (wsV RX11 285 RX11 yX11_guesses wsX11_guesses) := goodIn_app (goodIn_r _ [13, 14, 15, 7] (by decide +kernel) (by decide +kernel)) ggX11_sure_X11_guesses
theorem ggX11_sure_X11_comesOver : GoodIn wsX11_sure wsX11_comesOver := gi_sub (fun w h => List.mem_cons_of_mem _ (List.mem_append_left _ (List.mem_append_right _ (List.mem_append_right _ (List.mem_append_right _ (List.mem_append_right _ (List.mem_append_right _ h))))))) gd_wsX11_comesOver
set_option maxRecDepth 20000 in
theorem gX11_sure_X11_comesOver : GoodIn wsX11_sure (wsV RX11 413 RX11 yX11_comesOver wsX11_comesOver) := goodIn_app (goodIn_r _ [16, 17, 18, 7] (by decide +kernel) (by decide +kernel)) ggX11_sure_X11_comesOver
theorem dX11_sure_0 : decode cX11_sure 0 = .ok (.aload_n 0, 1) := dc1_42 (by decide +kernel)
theorem dX11_sure_1 : decode cX11_sure 1 = .ok (.iload_n 1, 1) := dc1_27 (by decide +kernel)
theorem dX11_sure_2 : decode cX11_sure 2 = .ok (.invokevirtual 364, 3) := dcw_182 (by decide +kernel)
theorem dX11_sure_5 : decode cX11_sure 5 = .ok (.ifCond .eq 25, 3) := dcs_153 (n := 25) (by decide +kernel)
theorem dX11_sure_8 : decode cX11_sure 8 = .ok (.aload_n 0, 1) := dc1_42 (by decide +kernel)
theorem dX11_sure_9 : decode cX11_sure 9 = .ok (.getfield 40, 3) := dcw_180 (by decide +kernel)
theorem dX11_sure_12 : decode cX11_sure 12 = .ok (.aload_n 0, 1) := dc1_42 (by decide +kernel)
theorem dX11_sure_13 : decode cX11_sure 13 = .ok (.getfield 215, 3) := dcw_180 (by decide +kernel)
theorem dX11_sure_16 : decode cX11_sure 16 = .ok (.iaload, 1) := dc1_46 (by decide +kernel)
theorem dX11_sure_17 : decode cX11_sure 17 = .ok (.ifCond .eq 13, 3) := dcs_153 (n := 13) (by decide +kernel)
theorem dX11_sure_20 : decode cX11_sure 20 = .ok (.iload_n 2, 1) := dc1_28 (by decide +kernel)
theorem dX11_sure_21 : decode cX11_sure 21 = .ok (.iconst 1, 1) := dc1_4 (by decide +kernel)
theorem dX11_sure_22 : decode cX11_sure 22 = .ok (.bipush 8, 2) := dcb_16 (n := 8) (by decide +kernel)
theorem dX11_sure_24 : decode cX11_sure 24 = .ok (.invokestatic 281, 3) := dcw_184 (by decide +kernel)
theorem dX11_sure_27 : decode cX11_sure 27 = .ok (.ifCond .ne 5, 3) := dcs_154 (n := 5) (by decide +kernel)
theorem dX11_sure_30 : decode cX11_sure 30 = .ok (.iconst (-1), 1) := dc1_2 (by decide +kernel)
theorem dX11_sure_31 : decode cX11_sure 31 = .ok (.ireturn, 1) := dc1_172 (by decide +kernel)
theorem dX11_sure_32 : decode cX11_sure 32 = .ok (.aload_n 0, 1) := dc1_42 (by decide +kernel)
theorem dX11_sure_33 : decode cX11_sure 33 = .ok (.invokevirtual 404, 3) := dcw_182 (by decide +kernel)
theorem dX11_sure_36 : decode cX11_sure 36 = .ok (.iconst 0, 1) := dc1_3 (by decide +kernel)
theorem dX11_sure_37 : decode cX11_sure 37 = .ok (.istore_n 3, 1) := dc1_62 (by decide +kernel)
theorem dX11_sure_38 : decode cX11_sure 38 = .ok (.iconst 0, 1) := dc1_3 (by decide +kernel)
theorem dX11_sure_39 : decode cX11_sure 39 = .ok (.istore 4, 2) := dcu_54 (by decide +kernel)
theorem dX11_sure_41 : decode cX11_sure 41 = .ok (.iload 4, 2) := dcu_21 (by decide +kernel)
theorem dX11_sure_43 : decode cX11_sure 43 = .ok (.aload_n 0, 1) := dc1_42 (by decide +kernel)
theorem dX11_sure_44 : decode cX11_sure 44 = .ok (.invokevirtual 285, 3) := dcw_182 (by decide +kernel)
theorem dX11_sure_47 : decode cX11_sure 47 = .ok (.if_icmp .ge 40, 3) := dcs_162 (n := 40) (by decide +kernel)
theorem dX11_sure_50 : decode cX11_sure 50 = .ok (.aload_n 0, 1) := dc1_42 (by decide +kernel)
theorem dX11_sure_51 : decode cX11_sure 51 = .ok (.getfield 113, 3) := dcw_180 (by decide +kernel)
theorem dX11_sure_54 : decode cX11_sure 54 = .ok (.iload 4, 2) := dcu_21 (by decide +kernel)
theorem dX11_sure_56 : decode cX11_sure 56 = .ok (.iaload, 1) := dc1_46 (by decide +kernel)
theorem dX11_sure_57 : decode cX11_sure 57 = .ok (.ifCond .le 24, 3) := dcs_158 (n := 24) (by decide +kernel)
theorem dX11_sure_60 : decode cX11_sure 60 = .ok (.aload_n 0, 1) := dc1_42 (by decide +kernel)
theorem dX11_sure_61 : decode cX11_sure 61 = .ok (.iload_n 1, 1) := dc1_27 (by decide +kernel)
theorem dX11_sure_62 : decode cX11_sure 62 = .ok (.iload 4, 2) := dcu_21 (by decide +kernel)
theorem dX11_sure_64 : decode cX11_sure 64 = .ok (.iload_n 2, 1) := dc1_28 (by decide +kernel)
theorem dX11_sure_65 : decode cX11_sure 65 = .ok (.invokevirtual 413, 3) := dcw_182 (by decide +kernel)
theorem dX11_sure_68 : decode cX11_sure 68 = .ok (.ifCond .eq 13, 3) := dcs_153 (n := 13) (by decide +kernel)
theorem dX11_sure_71 : decode cX11_sure 71 = .ok (.iload_n 3, 1) := dc1_29 (by decide +kernel)
theorem dX11_sure_72 : decode cX11_sure 72 = .ok (.aload_n 0, 1) := dc1_42 (by decide +kernel)
theorem dX11_sure_73 : decode cX11_sure 73 = .ok (.getfield 113, 3) := dcw_180 (by decide +kernel)
theorem dX11_sure_76 : decode cX11_sure 76 = .ok (.iload 4, 2) := dcu_21 (by decide +kernel)
theorem dX11_sure_78 : decode cX11_sure 78 = .ok (.iaload, 1) := dc1_46 (by decide +kernel)
theorem dX11_sure_79 : decode cX11_sure 79 = .ok (.iadd, 1) := dc1_96 (by decide +kernel)
theorem dX11_sure_80 : decode cX11_sure 80 = .ok (.istore_n 3, 1) := dc1_62 (by decide +kernel)
theorem dX11_sure_81 : decode cX11_sure 81 = .ok (.iinc 4 1, 3) := dc_iinc (m := 1) (by decide +kernel)
theorem dX11_sure_84 : decode cX11_sure 84 = .ok (.goto (-43), 3) := dcs_167 (n := 65493) (by decide +kernel)
theorem dX11_sure_87 : decode cX11_sure 87 = .ok (.iload_n 3, 1) := dc1_29 (by decide +kernel)
theorem dX11_sure_88 : decode cX11_sure 88 = .ok (.ireturn, 1) := dc1_172 (by decide +kernel)
theorem ggX11_alike_X11_isGuess : GoodIn wsX11_alike wsX11_isGuess := gi_sub (fun w h => List.mem_cons_of_mem _ (List.mem_append_left _ (List.mem_append_right _ (List.mem_append_left _ h)))) gd_wsX11_isGuess
set_option maxRecDepth 20000 in
theorem gX11_alike_X11_isGuess : GoodIn wsX11_alike (wsV RX11 367 RX11 yX11_isGuess wsX11_isGuess) := goodIn_app (goodIn_r _ [3, 4, 5, 6] (by decide +kernel) (by decide +kernel)) ggX11_alike_X11_isGuess
theorem ggX11_alike_X11_thingAt : GoodIn wsX11_alike wsX11_thingAt := gi_sub (fun w h => List.mem_cons_of_mem _ (List.mem_append_left _ (List.mem_append_right _ (List.mem_append_right _ h)))) gd_wsX11_thingAt
set_option maxRecDepth 20000 in
theorem gX11_alike_X11_thingAt : GoodIn wsX11_alike (wsV RX11 330 RX11 yX11_thingAt wsX11_thingAt) := goodIn_app (goodIn_r _ [7, 8, 9, 6] (by decide +kernel) (by decide +kernel)) ggX11_alike_X11_thingAt
theorem dX11_alike_0 : decode cX11_alike 0 = .ok (.aload_n 0, 1) := dc1_42 (by decide +kernel)
theorem dX11_alike_1 : decode cX11_alike 1 = .ok (.iload_n 1, 1) := dc1_27 (by decide +kernel)
theorem dX11_alike_2 : decode cX11_alike 2 = .ok (.invokevirtual 367, 3) := dcw_182 (by decide +kernel)
theorem dX11_alike_5 : decode cX11_alike 5 = .ok (.ifCond .eq 11, 3) := dcs_153 (n := 11) (by decide +kernel)
theorem dX11_alike_8 : decode cX11_alike 8 = .ok (.aload_n 0, 1) := dc1_42 (by decide +kernel)
theorem dX11_alike_9 : decode cX11_alike 9 = .ok (.iload_n 2, 1) := dc1_28 (by decide +kernel)
theorem dX11_alike_10 : decode cX11_alike 10 = .ok (.invokevirtual 367, 3) := dcw_182 (by decide +kernel)
theorem dX11_alike_13 : decode cX11_alike 13 = .ok (.ifCond .ne 5, 3) := dcs_154 (n := 5) (by decide +kernel)
theorem dX11_alike_16 : decode cX11_alike 16 = .ok (.iconst (-1), 1) := dc1_2 (by decide +kernel)
theorem dX11_alike_17 : decode cX11_alike 17 = .ok (.ireturn, 1) := dc1_172 (by decide +kernel)
theorem dX11_alike_18 : decode cX11_alike 18 = .ok (.iconst 0, 1) := dc1_3 (by decide +kernel)
theorem dX11_alike_19 : decode cX11_alike 19 = .ok (.istore_n 3, 1) := dc1_62 (by decide +kernel)
theorem dX11_alike_20 : decode cX11_alike 20 = .ok (.iload_n 3, 1) := dc1_29 (by decide +kernel)
theorem dX11_alike_21 : decode cX11_alike 21 = .ok (.aload_n 0, 1) := dc1_42 (by decide +kernel)
theorem dX11_alike_22 : decode cX11_alike 22 = .ok (.getfield 40, 3) := dcw_180 (by decide +kernel)
theorem dX11_alike_25 : decode cX11_alike 25 = .ok (.aload_n 0, 1) := dc1_42 (by decide +kernel)
theorem dX11_alike_26 : decode cX11_alike 26 = .ok (.getfield 215, 3) := dcw_180 (by decide +kernel)
theorem dX11_alike_29 : decode cX11_alike 29 = .ok (.iaload, 1) := dc1_46 (by decide +kernel)
theorem dX11_alike_30 : decode cX11_alike 30 = .ok (.if_icmp .ge 24, 3) := dcs_162 (n := 24) (by decide +kernel)
theorem dX11_alike_33 : decode cX11_alike 33 = .ok (.aload_n 0, 1) := dc1_42 (by decide +kernel)
theorem dX11_alike_34 : decode cX11_alike 34 = .ok (.iload_n 1, 1) := dc1_27 (by decide +kernel)
theorem dX11_alike_35 : decode cX11_alike 35 = .ok (.iload_n 3, 1) := dc1_29 (by decide +kernel)
theorem dX11_alike_36 : decode cX11_alike 36 = .ok (.invokevirtual 330, 3) := dcw_182 (by decide +kernel)
theorem dX11_alike_39 : decode cX11_alike 39 = .ok (.aload_n 0, 1) := dc1_42 (by decide +kernel)
theorem dX11_alike_40 : decode cX11_alike 40 = .ok (.iload_n 2, 1) := dc1_28 (by decide +kernel)
theorem dX11_alike_41 : decode cX11_alike 41 = .ok (.iload_n 3, 1) := dc1_29 (by decide +kernel)
theorem dX11_alike_42 : decode cX11_alike 42 = .ok (.invokevirtual 330, 3) := dcw_182 (by decide +kernel)
theorem dX11_alike_45 : decode cX11_alike 45 = .ok (.if_icmp .ne 9, 3) := dcs_160 (n := 9) (by decide +kernel)
theorem dX11_alike_48 : decode cX11_alike 48 = .ok (.iinc 3 1, 3) := dc_iinc (m := 1) (by decide +kernel)
theorem dX11_alike_51 : decode cX11_alike 51 = .ok (.goto (-31), 3) := dcs_167 (n := 65505) (by decide +kernel)
theorem dX11_alike_54 : decode cX11_alike 54 = .ok (.iload_n 3, 1) := dc1_29 (by decide +kernel)
theorem dX11_alike_55 : decode cX11_alike 55 = .ok (.ireturn, 1) := dc1_172 (by decide +kernel)
theorem ggX11_sunk_X11_isGuess : GoodIn wsX11_sunk wsX11_isGuess := gi_sub (fun w h => List.mem_cons_of_mem _ (List.mem_append_left _ (List.mem_append_right _ (List.mem_append_left _ h)))) gd_wsX11_isGuess
set_option maxRecDepth 20000 in
theorem gX11_sunk_X11_isGuess : GoodIn wsX11_sunk (wsV RX11 367 RX11 yX11_isGuess wsX11_isGuess) := goodIn_app (goodIn_r _ [4, 5, 6, 7] (by decide +kernel) (by decide +kernel)) ggX11_sunk_X11_isGuess
theorem ggX11_sunk_X11_copies : GoodIn wsX11_sunk wsX11_copies := gi_sub (fun w h => List.mem_cons_of_mem _ (List.mem_append_left _ (List.mem_append_right _ (List.mem_append_right _ (List.mem_append_left _ h))))) gd_wsX11_copies
set_option maxRecDepth 20000 in
theorem gX11_sunk_X11_copies : GoodIn wsX11_sunk (wsV RX11 352 RX11 yX11_copies wsX11_copies) := goodIn_app (goodIn_r _ [8, 9, 10, 7] (by decide +kernel) (by decide +kernel)) ggX11_sunk_X11_copies
theorem ggX11_sunk_X11_isHere : GoodIn wsX11_sunk wsX11_isHere := gi_sub (fun w h => List.mem_cons_of_mem _ (List.mem_append_left _ (List.mem_append_right _ (List.mem_append_right _ (List.mem_append_right _ (List.mem_append_left _ h)))))) gd_wsX11_isHere
set_option maxRecDepth 20000 in
theorem gX11_sunk_X11_isHere : GoodIn wsX11_sunk (wsV RX11 364 RX11 yX11_isHere wsX11_isHere) := goodIn_app (goodIn_r _ [11, 12, 13, 7] (by decide +kernel) (by decide +kernel)) ggX11_sunk_X11_isHere
theorem ggX11_sunk_X11_bearsBy : GoodIn wsX11_sunk wsX11_bearsBy := gi_sub (fun w h => List.mem_cons_of_mem _ (List.mem_append_left _ (List.mem_append_right _ (List.mem_append_right _ (List.mem_append_right _ (List.mem_append_right _ h)))))) gd_wsX11_bearsBy
set_option maxRecDepth 20000 in
theorem gX11_sunk_X11_bearsBy : GoodIn wsX11_sunk (wsV RX11 336 RX11 yX11_bearsBy wsX11_bearsBy) := goodIn_app (goodIn_r _ [14, 15, 16, 7] (by decide +kernel) (by decide +kernel)) ggX11_sunk_X11_bearsBy
theorem dX11_sunk_0 : decode cX11_sunk 0 = .ok (.aload_n 0, 1) := dc1_42 (by decide +kernel)
theorem dX11_sunk_1 : decode cX11_sunk 1 = .ok (.iload_n 1, 1) := dc1_27 (by decide +kernel)
theorem dX11_sunk_2 : decode cX11_sunk 2 = .ok (.invokevirtual 367, 3) := dcw_182 (by decide +kernel)
theorem dX11_sunk_5 : decode cX11_sunk 5 = .ok (.ifCond .ne 5, 3) := dcs_154 (n := 5) (by decide +kernel)
theorem dX11_sunk_8 : decode cX11_sunk 8 = .ok (.iconst (-1), 1) := dc1_2 (by decide +kernel)
theorem dX11_sunk_9 : decode cX11_sunk 9 = .ok (.ireturn, 1) := dc1_172 (by decide +kernel)
theorem dX11_sunk_10 : decode cX11_sunk 10 = .ok (.aload_n 0, 1) := dc1_42 (by decide +kernel)
theorem dX11_sunk_11 : decode cX11_sunk 11 = .ok (.invokevirtual 352, 3) := dcw_182 (by decide +kernel)
theorem dX11_sunk_14 : decode cX11_sunk 14 = .ok (.iconst 0, 1) := dc1_3 (by decide +kernel)
theorem dX11_sunk_15 : decode cX11_sunk 15 = .ok (.istore_n 2, 1) := dc1_61 (by decide +kernel)
theorem dX11_sunk_16 : decode cX11_sunk 16 = .ok (.iconst 0, 1) := dc1_3 (by decide +kernel)
theorem dX11_sunk_17 : decode cX11_sunk 17 = .ok (.istore_n 3, 1) := dc1_62 (by decide +kernel)
theorem dX11_sunk_18 : decode cX11_sunk 18 = .ok (.iload_n 3, 1) := dc1_29 (by decide +kernel)
theorem dX11_sunk_19 : decode cX11_sunk 19 = .ok (.aload_n 0, 1) := dc1_42 (by decide +kernel)
theorem dX11_sunk_20 : decode cX11_sunk 20 = .ok (.getfield 49, 3) := dcw_180 (by decide +kernel)
theorem dX11_sunk_23 : decode cX11_sunk 23 = .ok (.aload_n 0, 1) := dc1_42 (by decide +kernel)
theorem dX11_sunk_24 : decode cX11_sunk 24 = .ok (.getfield 215, 3) := dcw_180 (by decide +kernel)
theorem dX11_sunk_27 : decode cX11_sunk 27 = .ok (.iaload, 1) := dc1_46 (by decide +kernel)
theorem dX11_sunk_28 : decode cX11_sunk 28 = .ok (.if_icmp .ge 41, 3) := dcs_162 (n := 41) (by decide +kernel)
theorem dX11_sunk_31 : decode cX11_sunk 31 = .ok (.aload_n 0, 1) := dc1_42 (by decide +kernel)
theorem dX11_sunk_32 : decode cX11_sunk 32 = .ok (.iload_n 3, 1) := dc1_29 (by decide +kernel)
theorem dX11_sunk_33 : decode cX11_sunk 33 = .ok (.invokevirtual 364, 3) := dcw_182 (by decide +kernel)
theorem dX11_sunk_36 : decode cX11_sunk 36 = .ok (.ifCond .eq 27, 3) := dcs_153 (n := 27) (by decide +kernel)
theorem dX11_sunk_39 : decode cX11_sunk 39 = .ok (.aload_n 0, 1) := dc1_42 (by decide +kernel)
theorem dX11_sunk_40 : decode cX11_sunk 40 = .ok (.iload_n 3, 1) := dc1_29 (by decide +kernel)
theorem dX11_sunk_41 : decode cX11_sunk 41 = .ok (.iload_n 1, 1) := dc1_27 (by decide +kernel)
theorem dX11_sunk_42 : decode cX11_sunk 42 = .ok (.invokevirtual 336, 3) := dcw_182 (by decide +kernel)
theorem dX11_sunk_45 : decode cX11_sunk 45 = .ok (.aload_n 0, 1) := dc1_42 (by decide +kernel)
theorem dX11_sunk_46 : decode cX11_sunk 46 = .ok (.getfield 40, 3) := dcw_180 (by decide +kernel)
theorem dX11_sunk_49 : decode cX11_sunk 49 = .ok (.aload_n 0, 1) := dc1_42 (by decide +kernel)
theorem dX11_sunk_50 : decode cX11_sunk 50 = .ok (.getfield 215, 3) := dcw_180 (by decide +kernel)
theorem dX11_sunk_53 : decode cX11_sunk 53 = .ok (.iaload, 1) := dc1_46 (by decide +kernel)
theorem dX11_sunk_54 : decode cX11_sunk 54 = .ok (.if_icmp .ge 9, 3) := dcs_162 (n := 9) (by decide +kernel)
theorem dX11_sunk_57 : decode cX11_sunk 57 = .ok (.iload_n 2, 1) := dc1_28 (by decide +kernel)
theorem dX11_sunk_58 : decode cX11_sunk 58 = .ok (.iconst 1, 1) := dc1_4 (by decide +kernel)
theorem dX11_sunk_59 : decode cX11_sunk 59 = .ok (.iload_n 3, 1) := dc1_29 (by decide +kernel)
theorem dX11_sunk_60 : decode cX11_sunk 60 = .ok (.ishl, 1) := dc1_120 (by decide +kernel)
theorem dX11_sunk_61 : decode cX11_sunk 61 = .ok (.ior, 1) := dc1_128 (by decide +kernel)
theorem dX11_sunk_62 : decode cX11_sunk 62 = .ok (.istore_n 2, 1) := dc1_61 (by decide +kernel)
theorem dX11_sunk_63 : decode cX11_sunk 63 = .ok (.iinc 3 1, 3) := dc_iinc (m := 1) (by decide +kernel)
theorem dX11_sunk_66 : decode cX11_sunk 66 = .ok (.goto (-48), 3) := dcs_167 (n := 65488) (by decide +kernel)
theorem dX11_sunk_69 : decode cX11_sunk 69 = .ok (.iload_n 2, 1) := dc1_28 (by decide +kernel)
theorem dX11_sunk_70 : decode cX11_sunk 70 = .ok (.ireturn, 1) := dc1_172 (by decide +kernel)
theorem ggX11_stuck_X11_copies : GoodIn wsX11_stuck wsX11_copies := gi_sub (fun w h => List.mem_cons_of_mem _ (List.mem_append_left _ (List.mem_append_right _ (List.mem_append_left _ h)))) gd_wsX11_copies
set_option maxRecDepth 20000 in
theorem gX11_stuck_X11_copies : GoodIn wsX11_stuck (wsV RX11 352 RX11 yX11_copies wsX11_copies) := goodIn_app (goodIn_r _ [3, 4, 5, 6] (by decide +kernel) (by decide +kernel)) ggX11_stuck_X11_copies
theorem ggX11_stuck_X11_isHere : GoodIn wsX11_stuck wsX11_isHere := gi_sub (fun w h => List.mem_cons_of_mem _ (List.mem_append_left _ (List.mem_append_right _ (List.mem_append_right _ (List.mem_append_left _ h))))) gd_wsX11_isHere
set_option maxRecDepth 20000 in
theorem gX11_stuck_X11_isHere : GoodIn wsX11_stuck (wsV RX11 364 RX11 yX11_isHere wsX11_isHere) := goodIn_app (goodIn_r _ [7, 8, 9, 6] (by decide +kernel) (by decide +kernel)) ggX11_stuck_X11_isHere
theorem ggX11_stuck_X11_bestFor : GoodIn wsX11_stuck wsX11_bestFor := gi_sub (fun w h => List.mem_cons_of_mem _ (List.mem_append_left _ (List.mem_append_right _ (List.mem_append_right _ (List.mem_append_right _ h))))) gd_wsX11_bestFor
set_option maxRecDepth 20000 in
theorem gX11_stuck_X11_bestFor : GoodIn wsX11_stuck (wsV RX11 398 RX11 yX11_bestFor wsX11_bestFor) := goodIn_app (goodIn_r _ [10, 11, 12, 6] (by decide +kernel) (by decide +kernel)) ggX11_stuck_X11_bestFor
theorem dX11_stuck_0 : decode cX11_stuck 0 = .ok (.aload_n 0, 1) := dc1_42 (by decide +kernel)
theorem dX11_stuck_1 : decode cX11_stuck 1 = .ok (.invokevirtual 352, 3) := dcw_182 (by decide +kernel)
theorem dX11_stuck_4 : decode cX11_stuck 4 = .ok (.iconst 0, 1) := dc1_3 (by decide +kernel)
theorem dX11_stuck_5 : decode cX11_stuck 5 = .ok (.istore_n 1, 1) := dc1_60 (by decide +kernel)
theorem dX11_stuck_6 : decode cX11_stuck 6 = .ok (.iconst 0, 1) := dc1_3 (by decide +kernel)
theorem dX11_stuck_7 : decode cX11_stuck 7 = .ok (.istore_n 2, 1) := dc1_61 (by decide +kernel)
theorem dX11_stuck_8 : decode cX11_stuck 8 = .ok (.iload_n 2, 1) := dc1_28 (by decide +kernel)
theorem dX11_stuck_9 : decode cX11_stuck 9 = .ok (.aload_n 0, 1) := dc1_42 (by decide +kernel)
theorem dX11_stuck_10 : decode cX11_stuck 10 = .ok (.getfield 49, 3) := dcw_180 (by decide +kernel)
theorem dX11_stuck_13 : decode cX11_stuck 13 = .ok (.aload_n 0, 1) := dc1_42 (by decide +kernel)
theorem dX11_stuck_14 : decode cX11_stuck 14 = .ok (.getfield 215, 3) := dcw_180 (by decide +kernel)
theorem dX11_stuck_17 : decode cX11_stuck 17 = .ok (.iaload, 1) := dc1_46 (by decide +kernel)
theorem dX11_stuck_18 : decode cX11_stuck 18 = .ok (.if_icmp .ge 31, 3) := dcs_162 (n := 31) (by decide +kernel)
theorem dX11_stuck_21 : decode cX11_stuck 21 = .ok (.aload_n 0, 1) := dc1_42 (by decide +kernel)
theorem dX11_stuck_22 : decode cX11_stuck 22 = .ok (.iload_n 2, 1) := dc1_28 (by decide +kernel)
theorem dX11_stuck_23 : decode cX11_stuck 23 = .ok (.invokevirtual 364, 3) := dcw_182 (by decide +kernel)
theorem dX11_stuck_26 : decode cX11_stuck 26 = .ok (.ifCond .eq 17, 3) := dcs_153 (n := 17) (by decide +kernel)
theorem dX11_stuck_29 : decode cX11_stuck 29 = .ok (.aload_n 0, 1) := dc1_42 (by decide +kernel)
theorem dX11_stuck_30 : decode cX11_stuck 30 = .ok (.iload_n 2, 1) := dc1_28 (by decide +kernel)
theorem dX11_stuck_31 : decode cX11_stuck 31 = .ok (.invokevirtual 398, 3) := dcw_182 (by decide +kernel)
theorem dX11_stuck_34 : decode cX11_stuck 34 = .ok (.ifCond .ge 9, 3) := dcs_156 (n := 9) (by decide +kernel)
theorem dX11_stuck_37 : decode cX11_stuck 37 = .ok (.iload_n 1, 1) := dc1_27 (by decide +kernel)
theorem dX11_stuck_38 : decode cX11_stuck 38 = .ok (.iconst 1, 1) := dc1_4 (by decide +kernel)
theorem dX11_stuck_39 : decode cX11_stuck 39 = .ok (.iload_n 2, 1) := dc1_28 (by decide +kernel)
theorem dX11_stuck_40 : decode cX11_stuck 40 = .ok (.ishl, 1) := dc1_120 (by decide +kernel)
theorem dX11_stuck_41 : decode cX11_stuck 41 = .ok (.ior, 1) := dc1_128 (by decide +kernel)
theorem dX11_stuck_42 : decode cX11_stuck 42 = .ok (.istore_n 1, 1) := dc1_60 (by decide +kernel)
theorem dX11_stuck_43 : decode cX11_stuck 43 = .ok (.iinc 2 1, 3) := dc_iinc (m := 1) (by decide +kernel)
theorem dX11_stuck_46 : decode cX11_stuck 46 = .ok (.goto (-38), 3) := dcs_167 (n := 65498) (by decide +kernel)
theorem dX11_stuck_49 : decode cX11_stuck 49 = .ok (.iload_n 1, 1) := dc1_27 (by decide +kernel)
theorem dX11_stuck_50 : decode cX11_stuck 50 = .ok (.ireturn, 1) := dc1_172 (by decide +kernel)
theorem ggX11_spread_X11_isWave : GoodIn wsX11_spread wsX11_isWave := gi_sub (fun w h => List.mem_cons_of_mem _ (List.mem_append_left _ (List.mem_append_right _ (List.mem_append_left _ h)))) gd_wsX11_isWave
set_option maxRecDepth 20000 in
theorem gX11_spread_X11_isWave : GoodIn wsX11_spread (wsV RX11 349 RX11 yX11_isWave wsX11_isWave) := goodIn_app (goodIn_r _ [1, 2, 3, 4] (by decide +kernel) (by decide +kernel)) ggX11_spread_X11_isWave
theorem ggX11_spread_X11_copies : GoodIn wsX11_spread wsX11_copies := gi_sub (fun w h => List.mem_cons_of_mem _ (List.mem_append_left _ (List.mem_append_right _ (List.mem_append_right _ (List.mem_append_left _ h))))) gd_wsX11_copies
set_option maxRecDepth 20000 in
theorem gX11_spread_X11_copies : GoodIn wsX11_spread (wsV RX11 352 RX11 yX11_copies wsX11_copies) := goodIn_app (goodIn_r _ [5, 6, 7, 4] (by decide +kernel) (by decide +kernel)) ggX11_spread_X11_copies
theorem ggX11_spread_X11_mayBe : GoodIn wsX11_spread wsX11_mayBe := gi_sub (fun w h => List.mem_cons_of_mem _ (List.mem_append_left _ (List.mem_append_right _ (List.mem_append_right _ (List.mem_append_right _ (List.mem_append_left _ h)))))) gd_wsX11_mayBe
set_option maxRecDepth 20000 in
theorem gX11_spread_X11_mayBe : GoodIn wsX11_spread (wsV RX11 388 RX11 yX11_mayBe wsX11_mayBe) := goodIn_app (goodIn_r _ [8, 9, 10, 4] (by decide +kernel) (by decide +kernel)) ggX11_spread_X11_mayBe
theorem ggX11_spread_X11_oddsAt : GoodIn wsX11_spread wsX11_oddsAt := gi_sub (fun w h => List.mem_cons_of_mem _ (List.mem_append_left _ (List.mem_append_right _ (List.mem_append_right _ (List.mem_append_right _ (List.mem_append_right _ h)))))) gd_wsX11_oddsAt
set_option maxRecDepth 20000 in
theorem gX11_spread_X11_oddsAt : GoodIn wsX11_spread (wsV RX11 297 RX11 yX11_oddsAt wsX11_oddsAt) := goodIn_app (goodIn_r _ [11, 12, 13, 4] (by decide +kernel) (by decide +kernel)) ggX11_spread_X11_oddsAt
theorem dX11_spread_0 : decode cX11_spread 0 = .ok (.aload_n 0, 1) := dc1_42 (by decide +kernel)
theorem dX11_spread_1 : decode cX11_spread 1 = .ok (.iload_n 1, 1) := dc1_27 (by decide +kernel)
theorem dX11_spread_2 : decode cX11_spread 2 = .ok (.invokevirtual 349, 3) := dcw_182 (by decide +kernel)
theorem dX11_spread_5 : decode cX11_spread 5 = .ok (.ifCond .ne 5, 3) := dcs_154 (n := 5) (by decide +kernel)
theorem dX11_spread_8 : decode cX11_spread 8 = .ok (.iconst (-1), 1) := dc1_2 (by decide +kernel)
theorem dX11_spread_9 : decode cX11_spread 9 = .ok (.ireturn, 1) := dc1_172 (by decide +kernel)
theorem dX11_spread_10 : decode cX11_spread 10 = .ok (.aload_n 0, 1) := dc1_42 (by decide +kernel)
theorem dX11_spread_11 : decode cX11_spread 11 = .ok (.invokevirtual 352, 3) := dcw_182 (by decide +kernel)
theorem dX11_spread_14 : decode cX11_spread 14 = .ok (.iconst 0, 1) := dc1_3 (by decide +kernel)
theorem dX11_spread_15 : decode cX11_spread 15 = .ok (.istore_n 2, 1) := dc1_61 (by decide +kernel)
theorem dX11_spread_16 : decode cX11_spread 16 = .ok (.bipush 10, 2) := dcb_16 (n := 10) (by decide +kernel)
theorem dX11_spread_18 : decode cX11_spread 18 = .ok (.istore_n 3, 1) := dc1_62 (by decide +kernel)
theorem dX11_spread_19 : decode cX11_spread 19 = .ok (.iconst 0, 1) := dc1_3 (by decide +kernel)
theorem dX11_spread_20 : decode cX11_spread 20 = .ok (.istore 4, 2) := dcu_54 (by decide +kernel)
theorem dX11_spread_22 : decode cX11_spread 22 = .ok (.iload 4, 2) := dcu_21 (by decide +kernel)
theorem dX11_spread_24 : decode cX11_spread 24 = .ok (.bipush 6, 2) := dcb_16 (n := 6) (by decide +kernel)
theorem dX11_spread_26 : decode cX11_spread 26 = .ok (.if_icmp .ge 60, 3) := dcs_162 (n := 60) (by decide +kernel)
theorem dX11_spread_29 : decode cX11_spread 29 = .ok (.aload_n 0, 1) := dc1_42 (by decide +kernel)
theorem dX11_spread_30 : decode cX11_spread 30 = .ok (.iload_n 1, 1) := dc1_27 (by decide +kernel)
theorem dX11_spread_31 : decode cX11_spread 31 = .ok (.iload 4, 2) := dcu_21 (by decide +kernel)
theorem dX11_spread_33 : decode cX11_spread 33 = .ok (.invokevirtual 388, 3) := dcw_182 (by decide +kernel)
theorem dX11_spread_36 : decode cX11_spread 36 = .ok (.ifCond .ne 6, 3) := dcs_154 (n := 6) (by decide +kernel)
theorem dX11_spread_39 : decode cX11_spread 39 = .ok (.goto 41, 3) := dcs_167 (n := 41) (by decide +kernel)
theorem dX11_spread_42 : decode cX11_spread 42 = .ok (.aload_n 0, 1) := dc1_42 (by decide +kernel)
theorem dX11_spread_43 : decode cX11_spread 43 = .ok (.iload_n 1, 1) := dc1_27 (by decide +kernel)
theorem dX11_spread_44 : decode cX11_spread 44 = .ok (.iload 4, 2) := dcu_21 (by decide +kernel)
theorem dX11_spread_46 : decode cX11_spread 46 = .ok (.invokevirtual 297, 3) := dcw_182 (by decide +kernel)
theorem dX11_spread_49 : decode cX11_spread 49 = .ok (.iload_n 2, 1) := dc1_28 (by decide +kernel)
theorem dX11_spread_50 : decode cX11_spread 50 = .ok (.if_icmp .le 11, 3) := dcs_164 (n := 11) (by decide +kernel)
theorem dX11_spread_53 : decode cX11_spread 53 = .ok (.aload_n 0, 1) := dc1_42 (by decide +kernel)
theorem dX11_spread_54 : decode cX11_spread 54 = .ok (.iload_n 1, 1) := dc1_27 (by decide +kernel)
theorem dX11_spread_55 : decode cX11_spread 55 = .ok (.iload 4, 2) := dcu_21 (by decide +kernel)
theorem dX11_spread_57 : decode cX11_spread 57 = .ok (.invokevirtual 297, 3) := dcw_182 (by decide +kernel)
theorem dX11_spread_60 : decode cX11_spread 60 = .ok (.istore_n 2, 1) := dc1_61 (by decide +kernel)
theorem dX11_spread_61 : decode cX11_spread 61 = .ok (.aload_n 0, 1) := dc1_42 (by decide +kernel)
theorem dX11_spread_62 : decode cX11_spread 62 = .ok (.iload_n 1, 1) := dc1_27 (by decide +kernel)
theorem dX11_spread_63 : decode cX11_spread 63 = .ok (.iload 4, 2) := dcu_21 (by decide +kernel)
theorem dX11_spread_65 : decode cX11_spread 65 = .ok (.invokevirtual 297, 3) := dcw_182 (by decide +kernel)
theorem dX11_spread_68 : decode cX11_spread 68 = .ok (.iload_n 3, 1) := dc1_29 (by decide +kernel)
theorem dX11_spread_69 : decode cX11_spread 69 = .ok (.if_icmp .ge 11, 3) := dcs_162 (n := 11) (by decide +kernel)
theorem dX11_spread_72 : decode cX11_spread 72 = .ok (.aload_n 0, 1) := dc1_42 (by decide +kernel)
theorem dX11_spread_73 : decode cX11_spread 73 = .ok (.iload_n 1, 1) := dc1_27 (by decide +kernel)
theorem dX11_spread_74 : decode cX11_spread 74 = .ok (.iload 4, 2) := dcu_21 (by decide +kernel)
theorem dX11_spread_76 : decode cX11_spread 76 = .ok (.invokevirtual 297, 3) := dcw_182 (by decide +kernel)
theorem dX11_spread_79 : decode cX11_spread 79 = .ok (.istore_n 3, 1) := dc1_62 (by decide +kernel)
theorem dX11_spread_80 : decode cX11_spread 80 = .ok (.iinc 4 1, 3) := dc_iinc (m := 1) (by decide +kernel)
theorem dX11_spread_83 : decode cX11_spread 83 = .ok (.goto (-61), 3) := dcs_167 (n := 65475) (by decide +kernel)
theorem dX11_spread_86 : decode cX11_spread 86 = .ok (.iload_n 2, 1) := dc1_28 (by decide +kernel)
theorem dX11_spread_87 : decode cX11_spread 87 = .ok (.iload_n 3, 1) := dc1_29 (by decide +kernel)
theorem dX11_spread_88 : decode cX11_spread 88 = .ok (.if_icmp .ge 7, 3) := dcs_162 (n := 7) (by decide +kernel)
theorem dX11_spread_91 : decode cX11_spread 91 = .ok (.iconst 0, 1) := dc1_3 (by decide +kernel)
theorem dX11_spread_92 : decode cX11_spread 92 = .ok (.goto 6, 3) := dcs_167 (n := 6) (by decide +kernel)
theorem dX11_spread_95 : decode cX11_spread 95 = .ok (.iload_n 2, 1) := dc1_28 (by decide +kernel)
theorem dX11_spread_96 : decode cX11_spread 96 = .ok (.iload_n 3, 1) := dc1_29 (by decide +kernel)
theorem dX11_spread_97 : decode cX11_spread 97 = .ok (.isub, 1) := dc1_100 (by decide +kernel)
theorem dX11_spread_98 : decode cX11_spread 98 = .ok (.ireturn, 1) := dc1_172 (by decide +kernel)
theorem ggX11_dearest_X11_in : GoodIn wsX11_dearest wsX11_in := gi_sub (fun w h => List.mem_cons_of_mem _ (List.mem_append_left _ (List.mem_append_right _ (List.mem_append_left _ h)))) gd_wsX11_in
set_option maxRecDepth 20000 in
theorem gX11_dearest_X11_in : GoodIn wsX11_dearest (va_wsS RX11 281 yX11_in wsX11_in) := goodIn_app (goodIn_of _ (by decide +kernel)) ggX11_dearest_X11_in
theorem ggX11_dearest_X11_copies : GoodIn wsX11_dearest wsX11_copies := gi_sub (fun w h => List.mem_cons_of_mem _ (List.mem_append_left _ (List.mem_append_right _ (List.mem_append_right _ (List.mem_append_left _ h))))) gd_wsX11_copies
set_option maxRecDepth 20000 in
theorem gX11_dearest_X11_copies : GoodIn wsX11_dearest (wsV RX11 352 RX11 yX11_copies wsX11_copies) := goodIn_app (goodIn_r _ [6, 7, 8, 5] (by decide +kernel) (by decide +kernel)) ggX11_dearest_X11_copies
theorem ggX11_dearest_X11_faresOf : GoodIn wsX11_dearest wsX11_faresOf := gi_sub (fun w h => List.mem_cons_of_mem _ (List.mem_append_left _ (List.mem_append_right _ (List.mem_append_right _ (List.mem_append_right _ h))))) gd_wsX11_faresOf
set_option maxRecDepth 20000 in
theorem gX11_dearest_X11_faresOf : GoodIn wsX11_dearest (wsV RX11 339 RX11 yX11_faresOf wsX11_faresOf) := goodIn_app (goodIn_r _ [9, 10, 11, 5] (by decide +kernel) (by decide +kernel)) ggX11_dearest_X11_faresOf
theorem dX11_dearest_0 : decode cX11_dearest 0 = .ok (.iload_n 1, 1) := dc1_27 (by decide +kernel)
theorem dX11_dearest_1 : decode cX11_dearest 1 = .ok (.iconst 0, 1) := dc1_3 (by decide +kernel)
theorem dX11_dearest_2 : decode cX11_dearest 2 = .ok (.iconst 1, 1) := dc1_4 (by decide +kernel)
theorem dX11_dearest_3 : decode cX11_dearest 3 = .ok (.invokestatic 281, 3) := dcw_184 (by decide +kernel)
theorem dX11_dearest_6 : decode cX11_dearest 6 = .ok (.ifCond .ne 5, 3) := dcs_154 (n := 5) (by decide +kernel)
theorem dX11_dearest_9 : decode cX11_dearest 9 = .ok (.iconst (-1), 1) := dc1_2 (by decide +kernel)
theorem dX11_dearest_10 : decode cX11_dearest 10 = .ok (.ireturn, 1) := dc1_172 (by decide +kernel)
theorem dX11_dearest_11 : decode cX11_dearest 11 = .ok (.aload_n 0, 1) := dc1_42 (by decide +kernel)
theorem dX11_dearest_12 : decode cX11_dearest 12 = .ok (.invokevirtual 352, 3) := dcw_182 (by decide +kernel)
theorem dX11_dearest_15 : decode cX11_dearest 15 = .ok (.bipush (-2), 2) := dcb_16 (n := 254) (by decide +kernel)
theorem dX11_dearest_17 : decode cX11_dearest 17 = .ok (.istore_n 2, 1) := dc1_61 (by decide +kernel)
theorem dX11_dearest_18 : decode cX11_dearest 18 = .ok (.iconst 0, 1) := dc1_3 (by decide +kernel)
theorem dX11_dearest_19 : decode cX11_dearest 19 = .ok (.istore_n 3, 1) := dc1_62 (by decide +kernel)
theorem dX11_dearest_20 : decode cX11_dearest 20 = .ok (.iload_n 3, 1) := dc1_29 (by decide +kernel)
theorem dX11_dearest_21 : decode cX11_dearest 21 = .ok (.aload_n 0, 1) := dc1_42 (by decide +kernel)
theorem dX11_dearest_22 : decode cX11_dearest 22 = .ok (.getfield 49, 3) := dcw_180 (by decide +kernel)
theorem dX11_dearest_25 : decode cX11_dearest 25 = .ok (.aload_n 0, 1) := dc1_42 (by decide +kernel)
theorem dX11_dearest_26 : decode cX11_dearest 26 = .ok (.getfield 215, 3) := dcw_180 (by decide +kernel)
theorem dX11_dearest_29 : decode cX11_dearest 29 = .ok (.iaload, 1) := dc1_46 (by decide +kernel)
theorem dX11_dearest_30 : decode cX11_dearest 30 = .ok (.if_icmp .ge 28, 3) := dcs_162 (n := 28) (by decide +kernel)
theorem dX11_dearest_33 : decode cX11_dearest 33 = .ok (.iload_n 2, 1) := dc1_28 (by decide +kernel)
theorem dX11_dearest_34 : decode cX11_dearest 34 = .ok (.ifCond .lt 16, 3) := dcs_155 (n := 16) (by decide +kernel)
theorem dX11_dearest_37 : decode cX11_dearest 37 = .ok (.aload_n 0, 1) := dc1_42 (by decide +kernel)
theorem dX11_dearest_38 : decode cX11_dearest 38 = .ok (.iload_n 3, 1) := dc1_29 (by decide +kernel)
theorem dX11_dearest_39 : decode cX11_dearest 39 = .ok (.invokevirtual 339, 3) := dcw_182 (by decide +kernel)
theorem dX11_dearest_42 : decode cX11_dearest 42 = .ok (.aload_n 0, 1) := dc1_42 (by decide +kernel)
theorem dX11_dearest_43 : decode cX11_dearest 43 = .ok (.iload_n 2, 1) := dc1_28 (by decide +kernel)
theorem dX11_dearest_44 : decode cX11_dearest 44 = .ok (.invokevirtual 339, 3) := dcw_182 (by decide +kernel)
theorem dX11_dearest_47 : decode cX11_dearest 47 = .ok (.if_icmp .le 5, 3) := dcs_164 (n := 5) (by decide +kernel)
theorem dX11_dearest_50 : decode cX11_dearest 50 = .ok (.iload_n 3, 1) := dc1_29 (by decide +kernel)
theorem dX11_dearest_51 : decode cX11_dearest 51 = .ok (.istore_n 2, 1) := dc1_61 (by decide +kernel)
theorem dX11_dearest_52 : decode cX11_dearest 52 = .ok (.iinc 3 1, 3) := dc_iinc (m := 1) (by decide +kernel)
theorem dX11_dearest_55 : decode cX11_dearest 55 = .ok (.goto (-35), 3) := dcs_167 (n := 65501) (by decide +kernel)
theorem dX11_dearest_58 : decode cX11_dearest 58 = .ok (.iload_n 2, 1) := dc1_28 (by decide +kernel)
theorem dX11_dearest_59 : decode cX11_dearest 59 = .ok (.ifCond .lt 7, 3) := dcs_155 (n := 7) (by decide +kernel)
theorem dX11_dearest_62 : decode cX11_dearest 62 = .ok (.iload_n 1, 1) := dc1_27 (by decide +kernel)
theorem dX11_dearest_63 : decode cX11_dearest 63 = .ok (.ifCond .ne 7, 3) := dcs_154 (n := 7) (by decide +kernel)
theorem dX11_dearest_66 : decode cX11_dearest 66 = .ok (.iload_n 2, 1) := dc1_28 (by decide +kernel)
theorem dX11_dearest_67 : decode cX11_dearest 67 = .ok (.goto 8, 3) := dcs_167 (n := 8) (by decide +kernel)
theorem dX11_dearest_70 : decode cX11_dearest 70 = .ok (.aload_n 0, 1) := dc1_42 (by decide +kernel)
theorem dX11_dearest_71 : decode cX11_dearest 71 = .ok (.iload_n 2, 1) := dc1_28 (by decide +kernel)
theorem dX11_dearest_72 : decode cX11_dearest 72 = .ok (.invokevirtual 339, 3) := dcw_182 (by decide +kernel)
theorem dX11_dearest_75 : decode cX11_dearest 75 = .ok (.ireturn, 1) := dc1_172 (by decide +kernel)
theorem LX11_sure_113 : Cond.fieldLink RX11 113 "GuessFerryModel" "chanceBy" "[I" ∈ wsX11_sure := by decide +kernel
theorem LX11_sure_215 : Cond.fieldLink RX11 215 "GuessFerryModel" "live" "I" ∈ wsX11_sure := by decide +kernel
theorem LX11_sure_40 : Cond.fieldLink RX11 40 "GuessFerryModel" "waves" "[I" ∈ wsX11_sure := by decide +kernel
theorem inX11_sure_X11 : ∀ w ∈ u_ws RX11 TX11 58, w ∈ wsX11_sure := by decide +kernel
set_option maxHeartbeats 4000000 in
set_option maxRecDepth 100000 in
theorem br_sure_81 {l : Launch} {dC : Nat → ClassId} {dI : Nat → Nat → Nat} {cB cI cJ cZ cS : ClassId} {h : Nat} {a : Nat → Nat} {as : List Value} {r : Int32} {s' : RS} {k41 : RS → Int32 → Int32 → Int32 → Int32 → Option (Int32 × RS)} (hk41 : ∀ (s : RS) (x1 : Int32) (x2 : Int32) (x3 : Int32) (x4 : Int32), k41 s x1 x2 x3 x4 = some (r, s') → BlkI l yX11_sure wsX11_sure ({ frames := 8, cells := 0, slots := 0, locals := 186 }) cX11_sure 5 (some .int) (dC, dI) (tysA cB cI cJ cZ cS) as 41 (mwS cB cI cJ cZ h a s) [(0, .ref h), (1, .int x1), (2, .int x2), (3, .int x3), (4, .int x4)] [] (fun x u => x = r ∧ u = (mwS cB cI cJ cZ h a s'))) (s : RS) (x1 : Int32) (x2 : Int32) (x3 : Int32) (x4 : Int32) (hB : r_sure_81 k41 s x1 x2 x3 x4 = some (r, s')) : BlkI l yX11_sure wsX11_sure ({ frames := 8, cells := 0, slots := 0, locals := 186 }) cX11_sure 5 (some .int) (dC, dI) (tysA cB cI cJ cZ cS) as 81 (mwS cB cI cJ cZ h a s) [(0, .ref h), (1, .int x1), (2, .int x2), (3, .int x3), (4, .int x4)] [] (fun x u => x = r ∧ u = (mwS cB cI cJ cZ h a s')) := by
  intro p e s0 m below meth c A E H locs ls hP hD hS hl
  obtain ⟨C, hr, hlocks, hA, hK, hN⟩ := id E
  obtain ⟨hx, hb, hml, hown, hts⟩ := id C
  unfold r_sure_81 at hB
  refine lv_iinc (v := (x4 + 1)) (lv' := [(4, .int (x4 + 1)), (0, .ref h), (1, .int x1), (2, .int x2), (3, .int x3)]) hx hb dX11_sure_81 hl (k := 4) rfl (rfl) (by decide) rfl (fun ls hl => ?_)
  refine lv_goto (tgt := 41) hx hb dX11_sure_84 (by decide) ?_
  exact hk41 _ _ _ _ _ hB p e s0 m below meth c A E H locs ls hP hD hS (lv_sub hl [1, 2, 3, 4, 0] rfl)
set_option maxHeartbeats 4000000 in
set_option maxRecDepth 100000 in
theorem br_sure_41 {l : Launch} {dC : Nat → ClassId} {dI : Nat → Nat → Nat} {cB cI cJ cZ cS : ClassId} {h : Nat} {a : Nat → Nat} {as : List Value} {r : Int32} {s' : RS} {k41 : RS → Int32 → Int32 → Int32 → Int32 → Option (Int32 × RS)} (hk41 : ∀ (s : RS) (x1 : Int32) (x2 : Int32) (x3 : Int32) (x4 : Int32), k41 s x1 x2 x3 x4 = some (r, s') → BlkI l yX11_sure wsX11_sure ({ frames := 8, cells := 0, slots := 0, locals := 186 }) cX11_sure 5 (some .int) (dC, dI) (tysA cB cI cJ cZ cS) as 41 (mwS cB cI cJ cZ h a s) [(0, .ref h), (1, .int x1), (2, .int x2), (3, .int x3), (4, .int x4)] [] (fun x u => x = r ∧ u = (mwS cB cI cJ cZ h a s'))) (s : RS) (x1 : Int32) (x2 : Int32) (x3 : Int32) (x4 : Int32) (hB : r_sure_41 k41 s x1 x2 x3 x4 = some (r, s')) : BlkI l yX11_sure wsX11_sure ({ frames := 8, cells := 0, slots := 0, locals := 186 }) cX11_sure 5 (some .int) (dC, dI) (tysA cB cI cJ cZ cS) as 41 (mwS cB cI cJ cZ h a s) [(0, .ref h), (1, .int x1), (2, .int x2), (3, .int x3), (4, .int x4)] [] (fun x u => x = r ∧ u = (mwS cB cI cJ cZ h a s')) := by
  intro p e s0 m below meth c A E H locs ls hP hD hS hl
  obtain ⟨C, hr, hlocks, hA, hK, hN⟩ := id E
  obtain ⟨hx, hb, hml, hown, hts⟩ := id C
  unfold r_sure_41 at hB
  refine lv_iload hx hb dX11_sure_41 (lv_at hl 4 rfl) ?_
  refine lv_aload_n hx hb dX11_sure_43 rfl (lv_at hl 0 rfl) ?_
  obtain ⟨q_, s1, hc, hB⟩ := bindI_inv hB
  refine q_goiF (va_runV (As := []) (rest := [.int x4]) C (cr_guesses hc _) (cwV 0 hts gX11_sure_X11_guesses rfl rfl rfl (by decide +kernel) ⟨Nat.le_of_ble_eq_true rfl, Nat.le_of_ble_eq_true rfl⟩) (q_preV hK hP (ci := 11) (q0 := 0) rfl rfl rfl (q_preF hN hK hP hD)) rfl rfl hl.1 rfl (lv_room (Nat.le_of_ble_eq_true rfl)) dX11_sure_44 ⟨Nat.le_of_ble_eq_true rfl, Nat.le_of_ble_eq_true rfl⟩) hD hS hA (fun r2 w1 H locs hw hP hD hS => ?_)
  obtain ⟨hq_, hw⟩ := hw; subst hw; subst hq_
  refine lv_icmp_ge (tgt := 87) hx hb dX11_sure_47 (by decide) (fun c3 => ?_) (fun c3 => ?_)
  · have hB := if_p hB c3
    refine lv_iload_n hx hb dX11_sure_87 rfl (lv_at hl 3 rfl) ?_
    exact q_iret C hr hlocks hK hP hD hS (Nat.le_of_ble_eq_true rfl) (Nat.le_of_ble_eq_true rfl) dX11_sure_88 (by cases hB; exact ⟨rfl, rfl⟩)
  · have hB := if_n hB c3
    refine lv_aload_n hx hb dX11_sure_50 rfl (lv_at hl 0 rfl) ?_
    refine q_get (v := .ref (a 50)) C inX11_sure_X11 hK hP 0 rfl rfl 50 (by decide) rfl LX11_sure_113 rfl dX11_sure_51 ?_
    refine lv_iload hx hb dX11_sure_54 (lv_at hl 4 rfl) ?_
    obtain ⟨g4, hB⟩ := guard_inv hB
    refine q_iald (x := (s1.f 50 (Int32.toNatClampNeg x4))) C hK hP 32 1 rfl rfl (vpb_in g4) dX11_sure_56 rfl ?_
    refine lv_if_le (tgt := 81) hx hb dX11_sure_57 (by decide) (fun c5 => ?_) (fun c5 => ?_)
    · have hB := if_p hB c5
      exact br_sure_81 (hk41) _ _ _ _ _ hB p e s0 m below meth c A E H locs ls hP hD hS (lv_sub hl [0, 1, 2, 3, 4] rfl)
    · have hB := if_n hB c5
      refine lv_aload_n hx hb dX11_sure_60 rfl (lv_at hl 0 rfl) ?_
      refine lv_iload_n hx hb dX11_sure_61 rfl (lv_at hl 1 rfl) ?_
      refine lv_iload hx hb dX11_sure_62 (lv_at hl 4 rfl) ?_
      refine lv_iload_n hx hb dX11_sure_64 rfl (lv_at hl 2 rfl) ?_
      obtain ⟨q_, s6, hc, hB⟩ := bindI_inv hB
      refine q_goiF (va_runV (As := [.int x1, .int x4, .int x2]) (rest := []) C (cr_comesOver hc _) (cwV 3 hts gX11_sure_X11_comesOver rfl rfl rfl (by decide +kernel) ⟨Nat.le_of_ble_eq_true rfl, Nat.le_of_ble_eq_true rfl⟩) (q_preV hK hP (ci := 11) (q0 := 0) rfl rfl rfl (q_preF hN hK hP hD)) rfl rfl hl.1 rfl (lv_room (Nat.le_of_ble_eq_true rfl)) dX11_sure_65 ⟨Nat.le_of_ble_eq_true rfl, Nat.le_of_ble_eq_true rfl⟩) hD hS hA (fun r7 w1 H locs hw hP hD hS => ?_)
      obtain ⟨hq_, hw⟩ := hw; subst hw; subst hq_
      refine lv_if_eq (tgt := 81) hx hb dX11_sure_68 (by decide) (fun c8 => ?_) (fun c8 => ?_)
      · have hB := if_p hB c8
        exact br_sure_81 (hk41) _ _ _ _ _ hB p e s0 m below meth c A E H locs ls hP hD hS (lv_sub hl [0, 1, 2, 3, 4] rfl)
      · have hB := if_n hB c8
        refine lv_iload_n hx hb dX11_sure_71 rfl (lv_at hl 3 rfl) ?_
        refine lv_aload_n hx hb dX11_sure_72 rfl (lv_at hl 0 rfl) ?_
        refine q_get (v := .ref (a 50)) C inX11_sure_X11 hK hP 0 rfl rfl 50 (by decide) rfl LX11_sure_113 rfl dX11_sure_73 ?_
        refine lv_iload hx hb dX11_sure_76 (lv_at hl 4 rfl) ?_
        obtain ⟨g9, hB⟩ := guard_inv hB
        refine q_iald (x := (s6.f 50 (Int32.toNatClampNeg x4))) C hK hP 32 1 rfl rfl (vpb_in g9) dX11_sure_78 rfl ?_
        refine lv_iadd hx hb dX11_sure_79 ?_
        refine lv_istore_n (lv' := [(3, .int (x3 + (s6.f 50 (Int32.toNatClampNeg x4)))), (0, .ref h), (1, .int x1), (2, .int x2), (4, .int x4)]) hx hb dX11_sure_80 rfl hl (by decide) rfl (fun ls hl => ?_)
        exact br_sure_81 (hk41) _ _ _ _ _ hB p e s0 m below meth c A E H locs ls hP hD hS (lv_sub hl [1, 2, 3, 0, 4] rfl)
theorem br_sure_41L {l : Launch} {dC : Nat → ClassId} {dI : Nat → Nat → Nat} {cB cI cJ cZ cS : ClassId} {h : Nat} {a : Nat → Nat} {as : List Value} {r : Int32} {s' : RS} : ∀ (n : Nat) (s : RS) (x1 : Int32) (x2 : Int32) (x3 : Int32) (x4 : Int32), r_sure_41L n s x1 x2 x3 x4 = some (r, s') → BlkI l yX11_sure wsX11_sure ({ frames := 8, cells := 0, slots := 0, locals := 186 }) cX11_sure 5 (some .int) (dC, dI) (tysA cB cI cJ cZ cS) as 41 (mwS cB cI cJ cZ h a s) [(0, .ref h), (1, .int x1), (2, .int x2), (3, .int x3), (4, .int x4)] [] (fun x u => x = r ∧ u = (mwS cB cI cJ cZ h a s')) := by
  intro n
  induction n with
  | zero => intro s x1 x2 x3 x4 hB; exact none_ne hB
  | succ n ih => intro s x1 x2 x3 x4 hB; exact br_sure_41 ih _ _ _ _ _ hB
set_option maxHeartbeats 4000000 in
set_option maxRecDepth 100000 in
theorem br_sure {l : Launch} {dC : Nat → ClassId} {dI : Nat → Nat → Nat} {cB cI cJ cZ cS : ClassId} {h : Nat} {a : Nat → Nat} {as : List Value} {r : Int32} {s' : RS} (s : RS) (x1 : Int32) (x2 : Int32) (hB : r_sure s x1 x2 = some (r, s')) : BlkI l yX11_sure wsX11_sure ({ frames := 8, cells := 0, slots := 0, locals := 186 }) cX11_sure 5 (some .int) (dC, dI) (tysA cB cI cJ cZ cS) as 0 (mwS cB cI cJ cZ h a s) [(0, .ref h), (1, .int x1), (2, .int x2)] [] (fun x u => x = r ∧ u = (mwS cB cI cJ cZ h a s')) := by
  intro p e s0 m below meth c A E H locs ls hP hD hS hl
  obtain ⟨C, hr, hlocks, hA, hK, hN⟩ := id E
  obtain ⟨hx, hb, hml, hown, hts⟩ := id C
  unfold r_sure at hB
  refine lv_aload_n hx hb dX11_sure_0 rfl (lv_at hl 0 rfl) ?_
  refine lv_iload_n hx hb dX11_sure_1 rfl (lv_at hl 1 rfl) ?_
  obtain ⟨q_, s1, hc, hB⟩ := bindI_inv hB
  refine q_goiF (va_runV (As := [.int x1]) (rest := []) C (cr_isHere hc _) (cwV 1 hts gX11_sure_X11_isHere rfl rfl rfl (by decide +kernel) ⟨Nat.le_of_ble_eq_true rfl, Nat.le_of_ble_eq_true rfl⟩) (q_preV hK hP (ci := 11) (q0 := 0) rfl rfl rfl (q_preF hN hK hP hD)) rfl rfl hl.1 rfl (lv_room (Nat.le_of_ble_eq_true rfl)) dX11_sure_2 ⟨Nat.le_of_ble_eq_true rfl, Nat.le_of_ble_eq_true rfl⟩) hD hS hA (fun r2 w1 H locs hw hP hD hS => ?_)
  obtain ⟨hq_, hw⟩ := hw; subst hw; subst hq_
  refine lv_if_eq (tgt := 30) hx hb dX11_sure_5 (by decide) (fun c3 => ?_) (fun c3 => ?_)
  · have hB := if_p hB c3
    refine lv_iconst (v := (-1)) hx hb dX11_sure_30 (by decide) ?_
    exact q_iret C hr hlocks hK hP hD hS (Nat.le_of_ble_eq_true rfl) (Nat.le_of_ble_eq_true rfl) dX11_sure_31 (by cases hB; exact ⟨rfl, rfl⟩)
  · have hB := if_n hB c3
    refine lv_aload_n hx hb dX11_sure_8 rfl (lv_at hl 0 rfl) ?_
    refine q_get (v := .ref (a 20)) C inX11_sure_X11 hK hP 0 rfl rfl 20 (by decide) rfl LX11_sure_40 rfl dX11_sure_9 ?_
    refine lv_aload_n hx hb dX11_sure_12 rfl (lv_at hl 0 rfl) ?_
    refine q_get (v := .int (s1.v 18)) C inX11_sure_X11 hK hP 0 rfl rfl 18 (by decide) rfl LX11_sure_215 rfl dX11_sure_13 ?_
    obtain ⟨g4, hB⟩ := guard_inv hB
    refine q_iald (x := (s1.f 20 (Int32.toNatClampNeg (s1.v 18)))) C hK hP 8 1 rfl rfl (vpb_in g4) dX11_sure_16 rfl ?_
    refine lv_if_eq (tgt := 30) hx hb dX11_sure_17 (by decide) (fun c5 => ?_) (fun c5 => ?_)
    · have hB := if_p hB c5
      refine lv_iconst (v := (-1)) hx hb dX11_sure_30 (by decide) ?_
      exact q_iret C hr hlocks hK hP hD hS (Nat.le_of_ble_eq_true rfl) (Nat.le_of_ble_eq_true rfl) dX11_sure_31 (by cases hB; exact ⟨rfl, rfl⟩)
    · have hB := if_n hB c5
      refine lv_iload_n hx hb dX11_sure_20 rfl (lv_at hl 2 rfl) ?_
      refine lv_iconst (v := 1) hx hb dX11_sure_21 (by decide) ?_
      refine lv_bipush (v := 8) hx hb dX11_sure_22 (by decide) ?_
      obtain ⟨q_, hc, hB⟩ := bindP_inv hB
      refine q_goi0 (va_runS (As := [.int x2, .int 1, .int 8]) (rest := []) C (cr_in hc _) (va_cwS 3 hts gX11_sure_X11_in rfl rfl rfl (by decide +kernel) ⟨Nat.le_of_ble_eq_true rfl, Nat.le_of_ble_eq_true rfl⟩) (q_pre0 hN hK) rfl rfl hl.1 rfl (lv_room (Nat.le_of_ble_eq_true rfl)) dX11_sure_24 ⟨Nat.le_of_ble_eq_true rfl, Nat.le_of_ble_eq_true rfl⟩) hP hD hS hA (fun r6 w1 H locs hw hP hS => ?_)
      subst hw
      refine lv_if_ne (tgt := 32) hx hb dX11_sure_27 (by decide) (fun c7 => ?_) (fun c7 => ?_)
      · have hB := if_n hB c7
        refine lv_aload_n hx hb dX11_sure_32 rfl (lv_at hl 0 rfl) ?_
        obtain ⟨s8, hc, hB⟩ := bindP_inv hB
        refine q_govF (va_runV (As := []) (rest := []) C (cr_fillsChances hc _) (cwV 0 hts gX11_sure_X11_fillsChances rfl rfl rfl (by decide +kernel) ⟨Nat.le_of_ble_eq_true rfl, Nat.le_of_ble_eq_true rfl⟩) (q_preV hK hP (ci := 11) (q0 := 0) rfl rfl rfl (q_preF hN hK hP hD)) rfl rfl hl.1 rfl (lv_room (Nat.le_of_ble_eq_true rfl)) dX11_sure_33 ⟨Nat.le_of_ble_eq_true rfl, Nat.le_of_ble_eq_true rfl⟩) hD hS hA (fun w1 H locs hw hP hD hS => ?_)
        subst hw
        refine lv_iconst (v := 0) hx hb dX11_sure_36 (by decide) ?_
        refine lv_istore_n (lv' := [(3, .int 0), (0, .ref h), (1, .int x1), (2, .int x2)]) hx hb dX11_sure_37 rfl hl (by decide) rfl (fun ls hl => ?_)
        refine lv_iconst (v := 0) hx hb dX11_sure_38 (by decide) ?_
        refine lv_istore (lv' := [(4, .int 0), (3, .int 0), (0, .ref h), (1, .int x1), (2, .int x2)]) hx hb dX11_sure_39 hl (by decide) rfl (fun ls hl => ?_)
        exact br_sure_41L fu _ _ _ _ _ hB p e s0 m below meth c A E H locs ls hP hD hS (lv_sub hl [2, 3, 4, 1, 0] rfl)
      · have hB := if_p hB c7
        refine lv_iconst (v := (-1)) hx hb dX11_sure_30 (by decide) ?_
        exact q_iret C hr hlocks hK hP hD hS (Nat.le_of_ble_eq_true rfl) (Nat.le_of_ble_eq_true rfl) dX11_sure_31 (by cases hB; exact ⟨rfl, rfl⟩)
theorem cr_sure {l : Launch} {dC : Nat → ClassId} {dI : Nat → Nat → Nat} {cB cI cJ cZ cS : ClassId} {h : Nat} {a : Nat → Nat} {r : Int32} {s' : RS} {s : RS} {x1 : Int32} {x2 : Int32} (hB : r_sure s x1 x2 = some (r, s')) : CI l yX11_sure wsX11_sure ({ frames := 8, cells := 0, slots := 0, locals := 186 }) (dC, dI) (tysA cB cI cJ cZ cS) (mwS cB cI cJ cZ h a s) [.ref h, .int x1, .int x2] (fun x u => x = r ∧ u = (mwS cB cI cJ cZ h a s')) :=
  CI_of (cc := cX11_sure) (maxL := 5) (ret := (some .int)) (by decide) rfl (Nat.le_of_ble_eq_true rfl) (br_sure _ _ _ hB)
theorem LX11_alike_215 : Cond.fieldLink RX11 215 "GuessFerryModel" "live" "I" ∈ wsX11_alike := by decide +kernel
theorem LX11_alike_40 : Cond.fieldLink RX11 40 "GuessFerryModel" "waves" "[I" ∈ wsX11_alike := by decide +kernel
theorem inX11_alike_X11 : ∀ w ∈ u_ws RX11 TX11 58, w ∈ wsX11_alike := by decide +kernel
set_option maxHeartbeats 4000000 in
set_option maxRecDepth 100000 in
theorem br_alike_20 {l : Launch} {dC : Nat → ClassId} {dI : Nat → Nat → Nat} {cB cI cJ cZ cS : ClassId} {h : Nat} {a : Nat → Nat} {as : List Value} {r : Int32} {s' : RS} {k20 : RS → Int32 → Int32 → Int32 → Option (Int32 × RS)} (hk20 : ∀ (s : RS) (x1 : Int32) (x2 : Int32) (x3 : Int32), k20 s x1 x2 x3 = some (r, s') → BlkI l yX11_alike wsX11_alike ({ frames := 2, cells := 0, slots := 0, locals := 43 }) cX11_alike 4 (some .int) (dC, dI) (tysA cB cI cJ cZ cS) as 20 (mwS cB cI cJ cZ h a s) [(0, .ref h), (1, .int x1), (2, .int x2), (3, .int x3)] [] (fun x u => x = r ∧ u = (mwS cB cI cJ cZ h a s'))) (s : RS) (x1 : Int32) (x2 : Int32) (x3 : Int32) (hB : r_alike_20 k20 s x1 x2 x3 = some (r, s')) : BlkI l yX11_alike wsX11_alike ({ frames := 2, cells := 0, slots := 0, locals := 43 }) cX11_alike 4 (some .int) (dC, dI) (tysA cB cI cJ cZ cS) as 20 (mwS cB cI cJ cZ h a s) [(0, .ref h), (1, .int x1), (2, .int x2), (3, .int x3)] [] (fun x u => x = r ∧ u = (mwS cB cI cJ cZ h a s')) := by
  intro p e s0 m below meth c A E H locs ls hP hD hS hl
  obtain ⟨C, hr, hlocks, hA, hK, hN⟩ := id E
  obtain ⟨hx, hb, hml, hown, hts⟩ := id C
  unfold r_alike_20 at hB
  refine lv_iload_n hx hb dX11_alike_20 rfl (lv_at hl 3 rfl) ?_
  refine lv_aload_n hx hb dX11_alike_21 rfl (lv_at hl 0 rfl) ?_
  refine q_get (v := .ref (a 20)) C inX11_alike_X11 hK hP 0 rfl rfl 20 (by decide) rfl LX11_alike_40 rfl dX11_alike_22 ?_
  refine lv_aload_n hx hb dX11_alike_25 rfl (lv_at hl 0 rfl) ?_
  refine q_get (v := .int (s.v 18)) C inX11_alike_X11 hK hP 0 rfl rfl 18 (by decide) rfl LX11_alike_215 rfl dX11_alike_26 ?_
  obtain ⟨g1, hB⟩ := guard_inv hB
  refine q_iald (x := (s.f 20 (Int32.toNatClampNeg (s.v 18)))) C hK hP 8 1 rfl rfl (vpb_in g1) dX11_alike_29 rfl ?_
  refine lv_icmp_ge (tgt := 54) hx hb dX11_alike_30 (by decide) (fun c2 => ?_) (fun c2 => ?_)
  · have hB := if_p hB c2
    refine lv_iload_n hx hb dX11_alike_54 rfl (lv_at hl 3 rfl) ?_
    exact q_iret C hr hlocks hK hP hD hS (Nat.le_of_ble_eq_true rfl) (Nat.le_of_ble_eq_true rfl) dX11_alike_55 (by cases hB; exact ⟨rfl, rfl⟩)
  · have hB := if_n hB c2
    refine lv_aload_n hx hb dX11_alike_33 rfl (lv_at hl 0 rfl) ?_
    refine lv_iload_n hx hb dX11_alike_34 rfl (lv_at hl 1 rfl) ?_
    refine lv_iload_n hx hb dX11_alike_35 rfl (lv_at hl 3 rfl) ?_
    obtain ⟨q_, s3, hc, hB⟩ := bindI_inv hB
    refine q_goiF (va_runV (As := [.int x1, .int x3]) (rest := []) C (cr_thingAt hc _) (cwV 2 hts gX11_alike_X11_thingAt rfl rfl rfl (by decide +kernel) ⟨Nat.le_of_ble_eq_true rfl, Nat.le_of_ble_eq_true rfl⟩) (q_preV hK hP (ci := 11) (q0 := 0) rfl rfl rfl (q_preF hN hK hP hD)) rfl rfl hl.1 rfl (lv_room (Nat.le_of_ble_eq_true rfl)) dX11_alike_36 ⟨Nat.le_of_ble_eq_true rfl, Nat.le_of_ble_eq_true rfl⟩) hD hS hA (fun r4 w1 H locs hw hP hD hS => ?_)
    obtain ⟨hq_, hw⟩ := hw; subst hw; subst hq_
    refine lv_aload_n hx hb dX11_alike_39 rfl (lv_at hl 0 rfl) ?_
    refine lv_iload_n hx hb dX11_alike_40 rfl (lv_at hl 2 rfl) ?_
    refine lv_iload_n hx hb dX11_alike_41 rfl (lv_at hl 3 rfl) ?_
    obtain ⟨q_, s5, hc, hB⟩ := bindI_inv hB
    refine q_goiF (va_runV (As := [.int x2, .int x3]) (rest := [.int r4]) C (cr_thingAt hc _) (cwV 2 hts gX11_alike_X11_thingAt rfl rfl rfl (by decide +kernel) ⟨Nat.le_of_ble_eq_true rfl, Nat.le_of_ble_eq_true rfl⟩) (q_preV hK hP (ci := 11) (q0 := 0) rfl rfl rfl (q_preF hN hK hP hD)) rfl rfl hl.1 rfl (lv_room (Nat.le_of_ble_eq_true rfl)) dX11_alike_42 ⟨Nat.le_of_ble_eq_true rfl, Nat.le_of_ble_eq_true rfl⟩) hD hS hA (fun r6 w1 H locs hw hP hD hS => ?_)
    obtain ⟨hq_, hw⟩ := hw; subst hw; subst hq_
    refine lv_icmp_ne (tgt := 54) hx hb dX11_alike_45 (by decide) (fun c7 => ?_) (fun c7 => ?_)
    · have hB := if_n hB c7
      refine lv_iload_n hx hb dX11_alike_54 rfl (lv_at hl 3 rfl) ?_
      exact q_iret C hr hlocks hK hP hD hS (Nat.le_of_ble_eq_true rfl) (Nat.le_of_ble_eq_true rfl) dX11_alike_55 (by cases hB; exact ⟨rfl, rfl⟩)
    · have hB := if_p hB c7
      refine lv_iinc (v := (x3 + 1)) (lv' := [(3, .int (x3 + 1)), (0, .ref h), (1, .int x1), (2, .int x2)]) hx hb dX11_alike_48 hl (k := 3) rfl (rfl) (by decide) rfl (fun ls hl => ?_)
      refine lv_goto (tgt := 20) hx hb dX11_alike_51 (by decide) ?_
      exact hk20 _ _ _ _ hB p e s0 m below meth c A E H locs ls hP hD hS (lv_sub hl [1, 2, 3, 0] rfl)
theorem br_alike_20L {l : Launch} {dC : Nat → ClassId} {dI : Nat → Nat → Nat} {cB cI cJ cZ cS : ClassId} {h : Nat} {a : Nat → Nat} {as : List Value} {r : Int32} {s' : RS} : ∀ (n : Nat) (s : RS) (x1 : Int32) (x2 : Int32) (x3 : Int32), r_alike_20L n s x1 x2 x3 = some (r, s') → BlkI l yX11_alike wsX11_alike ({ frames := 2, cells := 0, slots := 0, locals := 43 }) cX11_alike 4 (some .int) (dC, dI) (tysA cB cI cJ cZ cS) as 20 (mwS cB cI cJ cZ h a s) [(0, .ref h), (1, .int x1), (2, .int x2), (3, .int x3)] [] (fun x u => x = r ∧ u = (mwS cB cI cJ cZ h a s')) := by
  intro n
  induction n with
  | zero => intro s x1 x2 x3 hB; exact none_ne hB
  | succ n ih => intro s x1 x2 x3 hB; exact br_alike_20 ih _ _ _ _ hB
set_option maxHeartbeats 4000000 in
set_option maxRecDepth 100000 in
theorem br_alike {l : Launch} {dC : Nat → ClassId} {dI : Nat → Nat → Nat} {cB cI cJ cZ cS : ClassId} {h : Nat} {a : Nat → Nat} {as : List Value} {r : Int32} {s' : RS} (s : RS) (x1 : Int32) (x2 : Int32) (hB : r_alike s x1 x2 = some (r, s')) : BlkI l yX11_alike wsX11_alike ({ frames := 2, cells := 0, slots := 0, locals := 43 }) cX11_alike 4 (some .int) (dC, dI) (tysA cB cI cJ cZ cS) as 0 (mwS cB cI cJ cZ h a s) [(0, .ref h), (1, .int x1), (2, .int x2)] [] (fun x u => x = r ∧ u = (mwS cB cI cJ cZ h a s')) := by
  intro p e s0 m below meth c A E H locs ls hP hD hS hl
  obtain ⟨C, hr, hlocks, hA, hK, hN⟩ := id E
  obtain ⟨hx, hb, hml, hown, hts⟩ := id C
  unfold r_alike at hB
  refine lv_aload_n hx hb dX11_alike_0 rfl (lv_at hl 0 rfl) ?_
  refine lv_iload_n hx hb dX11_alike_1 rfl (lv_at hl 1 rfl) ?_
  obtain ⟨q_, s1, hc, hB⟩ := bindI_inv hB
  refine q_goiF (va_runV (As := [.int x1]) (rest := []) C (cr_isGuess hc _) (cwV 1 hts gX11_alike_X11_isGuess rfl rfl rfl (by decide +kernel) ⟨Nat.le_of_ble_eq_true rfl, Nat.le_of_ble_eq_true rfl⟩) (q_preV hK hP (ci := 11) (q0 := 0) rfl rfl rfl (q_preF hN hK hP hD)) rfl rfl hl.1 rfl (lv_room (Nat.le_of_ble_eq_true rfl)) dX11_alike_2 ⟨Nat.le_of_ble_eq_true rfl, Nat.le_of_ble_eq_true rfl⟩) hD hS hA (fun r2 w1 H locs hw hP hD hS => ?_)
  obtain ⟨hq_, hw⟩ := hw; subst hw; subst hq_
  refine lv_if_eq (tgt := 16) hx hb dX11_alike_5 (by decide) (fun c3 => ?_) (fun c3 => ?_)
  · have hB := if_p hB c3
    refine lv_iconst (v := (-1)) hx hb dX11_alike_16 (by decide) ?_
    exact q_iret C hr hlocks hK hP hD hS (Nat.le_of_ble_eq_true rfl) (Nat.le_of_ble_eq_true rfl) dX11_alike_17 (by cases hB; exact ⟨rfl, rfl⟩)
  · have hB := if_n hB c3
    refine lv_aload_n hx hb dX11_alike_8 rfl (lv_at hl 0 rfl) ?_
    refine lv_iload_n hx hb dX11_alike_9 rfl (lv_at hl 2 rfl) ?_
    obtain ⟨q_, s4, hc, hB⟩ := bindI_inv hB
    refine q_goiF (va_runV (As := [.int x2]) (rest := []) C (cr_isGuess hc _) (cwV 1 hts gX11_alike_X11_isGuess rfl rfl rfl (by decide +kernel) ⟨Nat.le_of_ble_eq_true rfl, Nat.le_of_ble_eq_true rfl⟩) (q_preV hK hP (ci := 11) (q0 := 0) rfl rfl rfl (q_preF hN hK hP hD)) rfl rfl hl.1 rfl (lv_room (Nat.le_of_ble_eq_true rfl)) dX11_alike_10 ⟨Nat.le_of_ble_eq_true rfl, Nat.le_of_ble_eq_true rfl⟩) hD hS hA (fun r5 w1 H locs hw hP hD hS => ?_)
    obtain ⟨hq_, hw⟩ := hw; subst hw; subst hq_
    refine lv_if_ne (tgt := 18) hx hb dX11_alike_13 (by decide) (fun c6 => ?_) (fun c6 => ?_)
    · have hB := if_n hB c6
      refine lv_iconst (v := 0) hx hb dX11_alike_18 (by decide) ?_
      refine lv_istore_n (lv' := [(3, .int 0), (0, .ref h), (1, .int x1), (2, .int x2)]) hx hb dX11_alike_19 rfl hl (by decide) rfl (fun ls hl => ?_)
      exact br_alike_20L fu _ _ _ _ hB p e s0 m below meth c A E H locs ls hP hD hS (lv_sub hl [1, 2, 3, 0] rfl)
    · have hB := if_p hB c6
      refine lv_iconst (v := (-1)) hx hb dX11_alike_16 (by decide) ?_
      exact q_iret C hr hlocks hK hP hD hS (Nat.le_of_ble_eq_true rfl) (Nat.le_of_ble_eq_true rfl) dX11_alike_17 (by cases hB; exact ⟨rfl, rfl⟩)
theorem cr_alike {l : Launch} {dC : Nat → ClassId} {dI : Nat → Nat → Nat} {cB cI cJ cZ cS : ClassId} {h : Nat} {a : Nat → Nat} {r : Int32} {s' : RS} {s : RS} {x1 : Int32} {x2 : Int32} (hB : r_alike s x1 x2 = some (r, s')) : CI l yX11_alike wsX11_alike ({ frames := 2, cells := 0, slots := 0, locals := 43 }) (dC, dI) (tysA cB cI cJ cZ cS) (mwS cB cI cJ cZ h a s) [.ref h, .int x1, .int x2] (fun x u => x = r ∧ u = (mwS cB cI cJ cZ h a s')) :=
  CI_of (cc := cX11_alike) (maxL := 4) (ret := (some .int)) (by decide) rfl (Nat.le_of_ble_eq_true rfl) (br_alike _ _ _ hB)
theorem LX11_sunk_215 : Cond.fieldLink RX11 215 "GuessFerryModel" "live" "I" ∈ wsX11_sunk := by decide +kernel
theorem LX11_sunk_40 : Cond.fieldLink RX11 40 "GuessFerryModel" "waves" "[I" ∈ wsX11_sunk := by decide +kernel
theorem LX11_sunk_49 : Cond.fieldLink RX11 49 "GuessFerryModel" "parties" "[I" ∈ wsX11_sunk := by decide +kernel
theorem inX11_sunk_X11 : ∀ w ∈ u_ws RX11 TX11 58, w ∈ wsX11_sunk := by decide +kernel
set_option maxHeartbeats 4000000 in
set_option maxRecDepth 100000 in
theorem br_sunk_63 {l : Launch} {dC : Nat → ClassId} {dI : Nat → Nat → Nat} {cB cI cJ cZ cS : ClassId} {h : Nat} {a : Nat → Nat} {as : List Value} {r : Int32} {s' : RS} {k18 : RS → Int32 → Int32 → Int32 → Option (Int32 × RS)} (hk18 : ∀ (s : RS) (x1 : Int32) (x2 : Int32) (x3 : Int32), k18 s x1 x2 x3 = some (r, s') → BlkI l yX11_sunk wsX11_sunk ({ frames := 6, cells := 0, slots := 0, locals := 135 }) cX11_sunk 4 (some .int) (dC, dI) (tysA cB cI cJ cZ cS) as 18 (mwS cB cI cJ cZ h a s) [(0, .ref h), (1, .int x1), (2, .int x2), (3, .int x3)] [] (fun x u => x = r ∧ u = (mwS cB cI cJ cZ h a s'))) (s : RS) (x1 : Int32) (x2 : Int32) (x3 : Int32) (hB : r_sunk_63 k18 s x1 x2 x3 = some (r, s')) : BlkI l yX11_sunk wsX11_sunk ({ frames := 6, cells := 0, slots := 0, locals := 135 }) cX11_sunk 4 (some .int) (dC, dI) (tysA cB cI cJ cZ cS) as 63 (mwS cB cI cJ cZ h a s) [(0, .ref h), (1, .int x1), (2, .int x2), (3, .int x3)] [] (fun x u => x = r ∧ u = (mwS cB cI cJ cZ h a s')) := by
  intro p e s0 m below meth c A E H locs ls hP hD hS hl
  obtain ⟨C, hr, hlocks, hA, hK, hN⟩ := id E
  obtain ⟨hx, hb, hml, hown, hts⟩ := id C
  unfold r_sunk_63 at hB
  refine lv_iinc (v := (x3 + 1)) (lv' := [(3, .int (x3 + 1)), (0, .ref h), (1, .int x1), (2, .int x2)]) hx hb dX11_sunk_63 hl (k := 3) rfl (rfl) (by decide) rfl (fun ls hl => ?_)
  refine lv_goto (tgt := 18) hx hb dX11_sunk_66 (by decide) ?_
  exact hk18 _ _ _ _ hB p e s0 m below meth c A E H locs ls hP hD hS (lv_sub hl [1, 2, 3, 0] rfl)
set_option maxHeartbeats 4000000 in
set_option maxRecDepth 100000 in
theorem br_sunk_18 {l : Launch} {dC : Nat → ClassId} {dI : Nat → Nat → Nat} {cB cI cJ cZ cS : ClassId} {h : Nat} {a : Nat → Nat} {as : List Value} {r : Int32} {s' : RS} {k18 : RS → Int32 → Int32 → Int32 → Option (Int32 × RS)} (hk18 : ∀ (s : RS) (x1 : Int32) (x2 : Int32) (x3 : Int32), k18 s x1 x2 x3 = some (r, s') → BlkI l yX11_sunk wsX11_sunk ({ frames := 6, cells := 0, slots := 0, locals := 135 }) cX11_sunk 4 (some .int) (dC, dI) (tysA cB cI cJ cZ cS) as 18 (mwS cB cI cJ cZ h a s) [(0, .ref h), (1, .int x1), (2, .int x2), (3, .int x3)] [] (fun x u => x = r ∧ u = (mwS cB cI cJ cZ h a s'))) (s : RS) (x1 : Int32) (x2 : Int32) (x3 : Int32) (hB : r_sunk_18 k18 s x1 x2 x3 = some (r, s')) : BlkI l yX11_sunk wsX11_sunk ({ frames := 6, cells := 0, slots := 0, locals := 135 }) cX11_sunk 4 (some .int) (dC, dI) (tysA cB cI cJ cZ cS) as 18 (mwS cB cI cJ cZ h a s) [(0, .ref h), (1, .int x1), (2, .int x2), (3, .int x3)] [] (fun x u => x = r ∧ u = (mwS cB cI cJ cZ h a s')) := by
  intro p e s0 m below meth c A E H locs ls hP hD hS hl
  obtain ⟨C, hr, hlocks, hA, hK, hN⟩ := id E
  obtain ⟨hx, hb, hml, hown, hts⟩ := id C
  unfold r_sunk_18 at hB
  refine lv_iload_n hx hb dX11_sunk_18 rfl (lv_at hl 3 rfl) ?_
  refine lv_aload_n hx hb dX11_sunk_19 rfl (lv_at hl 0 rfl) ?_
  refine q_get (v := .ref (a 23)) C inX11_sunk_X11 hK hP 0 rfl rfl 23 (by decide) rfl LX11_sunk_49 rfl dX11_sunk_20 ?_
  refine lv_aload_n hx hb dX11_sunk_23 rfl (lv_at hl 0 rfl) ?_
  refine q_get (v := .int (s.v 18)) C inX11_sunk_X11 hK hP 0 rfl rfl 18 (by decide) rfl LX11_sunk_215 rfl dX11_sunk_24 ?_
  obtain ⟨g1, hB⟩ := guard_inv hB
  refine q_iald (x := (s.f 23 (Int32.toNatClampNeg (s.v 18)))) C hK hP 11 1 rfl rfl (vpb_in g1) dX11_sunk_27 rfl ?_
  refine lv_icmp_ge (tgt := 69) hx hb dX11_sunk_28 (by decide) (fun c2 => ?_) (fun c2 => ?_)
  · have hB := if_p hB c2
    refine lv_iload_n hx hb dX11_sunk_69 rfl (lv_at hl 2 rfl) ?_
    exact q_iret C hr hlocks hK hP hD hS (Nat.le_of_ble_eq_true rfl) (Nat.le_of_ble_eq_true rfl) dX11_sunk_70 (by cases hB; exact ⟨rfl, rfl⟩)
  · have hB := if_n hB c2
    refine lv_aload_n hx hb dX11_sunk_31 rfl (lv_at hl 0 rfl) ?_
    refine lv_iload_n hx hb dX11_sunk_32 rfl (lv_at hl 3 rfl) ?_
    obtain ⟨q_, s3, hc, hB⟩ := bindI_inv hB
    refine q_goiF (va_runV (As := [.int x3]) (rest := []) C (cr_isHere hc _) (cwV 1 hts gX11_sunk_X11_isHere rfl rfl rfl (by decide +kernel) ⟨Nat.le_of_ble_eq_true rfl, Nat.le_of_ble_eq_true rfl⟩) (q_preV hK hP (ci := 11) (q0 := 0) rfl rfl rfl (q_preF hN hK hP hD)) rfl rfl hl.1 rfl (lv_room (Nat.le_of_ble_eq_true rfl)) dX11_sunk_33 ⟨Nat.le_of_ble_eq_true rfl, Nat.le_of_ble_eq_true rfl⟩) hD hS hA (fun r4 w1 H locs hw hP hD hS => ?_)
    obtain ⟨hq_, hw⟩ := hw; subst hw; subst hq_
    refine lv_if_eq (tgt := 63) hx hb dX11_sunk_36 (by decide) (fun c5 => ?_) (fun c5 => ?_)
    · have hB := if_p hB c5
      exact br_sunk_63 (hk18) _ _ _ _ hB p e s0 m below meth c A E H locs ls hP hD hS (lv_sub hl [0, 1, 2, 3] rfl)
    · have hB := if_n hB c5
      refine lv_aload_n hx hb dX11_sunk_39 rfl (lv_at hl 0 rfl) ?_
      refine lv_iload_n hx hb dX11_sunk_40 rfl (lv_at hl 3 rfl) ?_
      refine lv_iload_n hx hb dX11_sunk_41 rfl (lv_at hl 1 rfl) ?_
      obtain ⟨q_, s6, hc, hB⟩ := bindI_inv hB
      refine q_goiF (va_runV (As := [.int x3, .int x1]) (rest := []) C (cr_bearsBy hc _) (cwV 2 hts gX11_sunk_X11_bearsBy rfl rfl rfl (by decide +kernel) ⟨Nat.le_of_ble_eq_true rfl, Nat.le_of_ble_eq_true rfl⟩) (q_preV hK hP (ci := 11) (q0 := 0) rfl rfl rfl (q_preF hN hK hP hD)) rfl rfl hl.1 rfl (lv_room (Nat.le_of_ble_eq_true rfl)) dX11_sunk_42 ⟨Nat.le_of_ble_eq_true rfl, Nat.le_of_ble_eq_true rfl⟩) hD hS hA (fun r7 w1 H locs hw hP hD hS => ?_)
      obtain ⟨hq_, hw⟩ := hw; subst hw; subst hq_
      refine lv_aload_n hx hb dX11_sunk_45 rfl (lv_at hl 0 rfl) ?_
      refine q_get (v := .ref (a 20)) C inX11_sunk_X11 hK hP 0 rfl rfl 20 (by decide) rfl LX11_sunk_40 rfl dX11_sunk_46 ?_
      refine lv_aload_n hx hb dX11_sunk_49 rfl (lv_at hl 0 rfl) ?_
      refine q_get (v := .int (s6.v 18)) C inX11_sunk_X11 hK hP 0 rfl rfl 18 (by decide) rfl LX11_sunk_215 rfl dX11_sunk_50 ?_
      obtain ⟨g8, hB⟩ := guard_inv hB
      refine q_iald (x := (s6.f 20 (Int32.toNatClampNeg (s6.v 18)))) C hK hP 8 1 rfl rfl (vpb_in g8) dX11_sunk_53 rfl ?_
      refine lv_icmp_ge (tgt := 63) hx hb dX11_sunk_54 (by decide) (fun c9 => ?_) (fun c9 => ?_)
      · have hB := if_p hB c9
        exact br_sunk_63 (hk18) _ _ _ _ hB p e s0 m below meth c A E H locs ls hP hD hS (lv_sub hl [0, 1, 2, 3] rfl)
      · have hB := if_n hB c9
        refine lv_iload_n hx hb dX11_sunk_57 rfl (lv_at hl 2 rfl) ?_
        refine lv_iconst (v := 1) hx hb dX11_sunk_58 (by decide) ?_
        refine lv_iload_n hx hb dX11_sunk_59 rfl (lv_at hl 3 rfl) ?_
        refine lv_ishl hx hb dX11_sunk_60 ?_
        refine lv_ior hx hb dX11_sunk_61 ?_
        refine lv_istore_n (lv' := [(2, .int (x2 ||| (1 <<< (x3 &&& 31)))), (0, .ref h), (1, .int x1), (3, .int x3)]) hx hb dX11_sunk_62 rfl hl (by decide) rfl (fun ls hl => ?_)
        exact br_sunk_63 (hk18) _ _ _ _ hB p e s0 m below meth c A E H locs ls hP hD hS (lv_sub hl [1, 2, 0, 3] rfl)
theorem br_sunk_18L {l : Launch} {dC : Nat → ClassId} {dI : Nat → Nat → Nat} {cB cI cJ cZ cS : ClassId} {h : Nat} {a : Nat → Nat} {as : List Value} {r : Int32} {s' : RS} : ∀ (n : Nat) (s : RS) (x1 : Int32) (x2 : Int32) (x3 : Int32), r_sunk_18L n s x1 x2 x3 = some (r, s') → BlkI l yX11_sunk wsX11_sunk ({ frames := 6, cells := 0, slots := 0, locals := 135 }) cX11_sunk 4 (some .int) (dC, dI) (tysA cB cI cJ cZ cS) as 18 (mwS cB cI cJ cZ h a s) [(0, .ref h), (1, .int x1), (2, .int x2), (3, .int x3)] [] (fun x u => x = r ∧ u = (mwS cB cI cJ cZ h a s')) := by
  intro n
  induction n with
  | zero => intro s x1 x2 x3 hB; exact none_ne hB
  | succ n ih => intro s x1 x2 x3 hB; exact br_sunk_18 ih _ _ _ _ hB
set_option maxHeartbeats 4000000 in
set_option maxRecDepth 100000 in
theorem br_sunk {l : Launch} {dC : Nat → ClassId} {dI : Nat → Nat → Nat} {cB cI cJ cZ cS : ClassId} {h : Nat} {a : Nat → Nat} {as : List Value} {r : Int32} {s' : RS} (s : RS) (x1 : Int32) (hB : r_sunk s x1 = some (r, s')) : BlkI l yX11_sunk wsX11_sunk ({ frames := 6, cells := 0, slots := 0, locals := 135 }) cX11_sunk 4 (some .int) (dC, dI) (tysA cB cI cJ cZ cS) as 0 (mwS cB cI cJ cZ h a s) [(0, .ref h), (1, .int x1)] [] (fun x u => x = r ∧ u = (mwS cB cI cJ cZ h a s')) := by
  intro p e s0 m below meth c A E H locs ls hP hD hS hl
  obtain ⟨C, hr, hlocks, hA, hK, hN⟩ := id E
  obtain ⟨hx, hb, hml, hown, hts⟩ := id C
  unfold r_sunk at hB
  refine lv_aload_n hx hb dX11_sunk_0 rfl (lv_at hl 0 rfl) ?_
  refine lv_iload_n hx hb dX11_sunk_1 rfl (lv_at hl 1 rfl) ?_
  obtain ⟨q_, s1, hc, hB⟩ := bindI_inv hB
  refine q_goiF (va_runV (As := [.int x1]) (rest := []) C (cr_isGuess hc _) (cwV 1 hts gX11_sunk_X11_isGuess rfl rfl rfl (by decide +kernel) ⟨Nat.le_of_ble_eq_true rfl, Nat.le_of_ble_eq_true rfl⟩) (q_preV hK hP (ci := 11) (q0 := 0) rfl rfl rfl (q_preF hN hK hP hD)) rfl rfl hl.1 rfl (lv_room (Nat.le_of_ble_eq_true rfl)) dX11_sunk_2 ⟨Nat.le_of_ble_eq_true rfl, Nat.le_of_ble_eq_true rfl⟩) hD hS hA (fun r2 w1 H locs hw hP hD hS => ?_)
  obtain ⟨hq_, hw⟩ := hw; subst hw; subst hq_
  refine lv_if_ne (tgt := 10) hx hb dX11_sunk_5 (by decide) (fun c3 => ?_) (fun c3 => ?_)
  · have hB := if_n hB c3
    refine lv_aload_n hx hb dX11_sunk_10 rfl (lv_at hl 0 rfl) ?_
    obtain ⟨s4, hc, hB⟩ := bindP_inv hB
    refine q_govF (va_runV (As := []) (rest := []) C (cr_copies hc _) (cwV 0 hts gX11_sunk_X11_copies rfl rfl rfl (by decide +kernel) ⟨Nat.le_of_ble_eq_true rfl, Nat.le_of_ble_eq_true rfl⟩) (q_preV hK hP (ci := 11) (q0 := 0) rfl rfl rfl (q_preF hN hK hP hD)) rfl rfl hl.1 rfl (lv_room (Nat.le_of_ble_eq_true rfl)) dX11_sunk_11 ⟨Nat.le_of_ble_eq_true rfl, Nat.le_of_ble_eq_true rfl⟩) hD hS hA (fun w1 H locs hw hP hD hS => ?_)
    subst hw
    refine lv_iconst (v := 0) hx hb dX11_sunk_14 (by decide) ?_
    refine lv_istore_n (lv' := [(2, .int 0), (0, .ref h), (1, .int x1)]) hx hb dX11_sunk_15 rfl hl (by decide) rfl (fun ls hl => ?_)
    refine lv_iconst (v := 0) hx hb dX11_sunk_16 (by decide) ?_
    refine lv_istore_n (lv' := [(3, .int 0), (2, .int 0), (0, .ref h), (1, .int x1)]) hx hb dX11_sunk_17 rfl hl (by decide) rfl (fun ls hl => ?_)
    exact br_sunk_18L fu _ _ _ _ hB p e s0 m below meth c A E H locs ls hP hD hS (lv_sub hl [2, 3, 1, 0] rfl)
  · have hB := if_p hB c3
    refine lv_iconst (v := (-1)) hx hb dX11_sunk_8 (by decide) ?_
    exact q_iret C hr hlocks hK hP hD hS (Nat.le_of_ble_eq_true rfl) (Nat.le_of_ble_eq_true rfl) dX11_sunk_9 (by cases hB; exact ⟨rfl, rfl⟩)
theorem cr_sunk {l : Launch} {dC : Nat → ClassId} {dI : Nat → Nat → Nat} {cB cI cJ cZ cS : ClassId} {h : Nat} {a : Nat → Nat} {r : Int32} {s' : RS} {s : RS} {x1 : Int32} (hB : r_sunk s x1 = some (r, s')) : CI l yX11_sunk wsX11_sunk ({ frames := 6, cells := 0, slots := 0, locals := 135 }) (dC, dI) (tysA cB cI cJ cZ cS) (mwS cB cI cJ cZ h a s) [.ref h, .int x1] (fun x u => x = r ∧ u = (mwS cB cI cJ cZ h a s')) :=
  CI_of (cc := cX11_sunk) (maxL := 4) (ret := (some .int)) (by decide) rfl (Nat.le_of_ble_eq_true rfl) (br_sunk _ _ hB)
theorem LX11_stuck_215 : Cond.fieldLink RX11 215 "GuessFerryModel" "live" "I" ∈ wsX11_stuck := by decide +kernel
theorem LX11_stuck_49 : Cond.fieldLink RX11 49 "GuessFerryModel" "parties" "[I" ∈ wsX11_stuck := by decide +kernel
theorem inX11_stuck_X11 : ∀ w ∈ u_ws RX11 TX11 58, w ∈ wsX11_stuck := by decide +kernel
set_option maxHeartbeats 4000000 in
set_option maxRecDepth 100000 in
theorem br_stuck_43 {l : Launch} {dC : Nat → ClassId} {dI : Nat → Nat → Nat} {cB cI cJ cZ cS : ClassId} {h : Nat} {a : Nat → Nat} {as : List Value} {r : Int32} {s' : RS} {k8 : RS → Int32 → Int32 → Option (Int32 × RS)} (hk8 : ∀ (s : RS) (x1 : Int32) (x2 : Int32), k8 s x1 x2 = some (r, s') → BlkI l yX11_stuck wsX11_stuck ({ frames := 6, cells := 0, slots := 0, locals := 137 }) cX11_stuck 3 (some .int) (dC, dI) (tysA cB cI cJ cZ cS) as 8 (mwS cB cI cJ cZ h a s) [(0, .ref h), (1, .int x1), (2, .int x2)] [] (fun x u => x = r ∧ u = (mwS cB cI cJ cZ h a s'))) (s : RS) (x1 : Int32) (x2 : Int32) (hB : r_stuck_43 k8 s x1 x2 = some (r, s')) : BlkI l yX11_stuck wsX11_stuck ({ frames := 6, cells := 0, slots := 0, locals := 137 }) cX11_stuck 3 (some .int) (dC, dI) (tysA cB cI cJ cZ cS) as 43 (mwS cB cI cJ cZ h a s) [(0, .ref h), (1, .int x1), (2, .int x2)] [] (fun x u => x = r ∧ u = (mwS cB cI cJ cZ h a s')) := by
  intro p e s0 m below meth c A E H locs ls hP hD hS hl
  obtain ⟨C, hr, hlocks, hA, hK, hN⟩ := id E
  obtain ⟨hx, hb, hml, hown, hts⟩ := id C
  unfold r_stuck_43 at hB
  refine lv_iinc (v := (x2 + 1)) (lv' := [(2, .int (x2 + 1)), (0, .ref h), (1, .int x1)]) hx hb dX11_stuck_43 hl (k := 2) rfl (rfl) (by decide) rfl (fun ls hl => ?_)
  refine lv_goto (tgt := 8) hx hb dX11_stuck_46 (by decide) ?_
  exact hk8 _ _ _ hB p e s0 m below meth c A E H locs ls hP hD hS (lv_sub hl [1, 2, 0] rfl)
set_option maxHeartbeats 4000000 in
set_option maxRecDepth 100000 in
theorem br_stuck_8 {l : Launch} {dC : Nat → ClassId} {dI : Nat → Nat → Nat} {cB cI cJ cZ cS : ClassId} {h : Nat} {a : Nat → Nat} {as : List Value} {r : Int32} {s' : RS} {k8 : RS → Int32 → Int32 → Option (Int32 × RS)} (hk8 : ∀ (s : RS) (x1 : Int32) (x2 : Int32), k8 s x1 x2 = some (r, s') → BlkI l yX11_stuck wsX11_stuck ({ frames := 6, cells := 0, slots := 0, locals := 137 }) cX11_stuck 3 (some .int) (dC, dI) (tysA cB cI cJ cZ cS) as 8 (mwS cB cI cJ cZ h a s) [(0, .ref h), (1, .int x1), (2, .int x2)] [] (fun x u => x = r ∧ u = (mwS cB cI cJ cZ h a s'))) (s : RS) (x1 : Int32) (x2 : Int32) (hB : r_stuck_8 k8 s x1 x2 = some (r, s')) : BlkI l yX11_stuck wsX11_stuck ({ frames := 6, cells := 0, slots := 0, locals := 137 }) cX11_stuck 3 (some .int) (dC, dI) (tysA cB cI cJ cZ cS) as 8 (mwS cB cI cJ cZ h a s) [(0, .ref h), (1, .int x1), (2, .int x2)] [] (fun x u => x = r ∧ u = (mwS cB cI cJ cZ h a s')) := by
  intro p e s0 m below meth c A E H locs ls hP hD hS hl
  obtain ⟨C, hr, hlocks, hA, hK, hN⟩ := id E
  obtain ⟨hx, hb, hml, hown, hts⟩ := id C
  unfold r_stuck_8 at hB
  refine lv_iload_n hx hb dX11_stuck_8 rfl (lv_at hl 2 rfl) ?_
  refine lv_aload_n hx hb dX11_stuck_9 rfl (lv_at hl 0 rfl) ?_
  refine q_get (v := .ref (a 23)) C inX11_stuck_X11 hK hP 0 rfl rfl 23 (by decide) rfl LX11_stuck_49 rfl dX11_stuck_10 ?_
  refine lv_aload_n hx hb dX11_stuck_13 rfl (lv_at hl 0 rfl) ?_
  refine q_get (v := .int (s.v 18)) C inX11_stuck_X11 hK hP 0 rfl rfl 18 (by decide) rfl LX11_stuck_215 rfl dX11_stuck_14 ?_
  obtain ⟨g1, hB⟩ := guard_inv hB
  refine q_iald (x := (s.f 23 (Int32.toNatClampNeg (s.v 18)))) C hK hP 11 1 rfl rfl (vpb_in g1) dX11_stuck_17 rfl ?_
  refine lv_icmp_ge (tgt := 49) hx hb dX11_stuck_18 (by decide) (fun c2 => ?_) (fun c2 => ?_)
  · have hB := if_p hB c2
    refine lv_iload_n hx hb dX11_stuck_49 rfl (lv_at hl 1 rfl) ?_
    exact q_iret C hr hlocks hK hP hD hS (Nat.le_of_ble_eq_true rfl) (Nat.le_of_ble_eq_true rfl) dX11_stuck_50 (by cases hB; exact ⟨rfl, rfl⟩)
  · have hB := if_n hB c2
    refine lv_aload_n hx hb dX11_stuck_21 rfl (lv_at hl 0 rfl) ?_
    refine lv_iload_n hx hb dX11_stuck_22 rfl (lv_at hl 2 rfl) ?_
    obtain ⟨q_, s3, hc, hB⟩ := bindI_inv hB
    refine q_goiF (va_runV (As := [.int x2]) (rest := []) C (cr_isHere hc _) (cwV 1 hts gX11_stuck_X11_isHere rfl rfl rfl (by decide +kernel) ⟨Nat.le_of_ble_eq_true rfl, Nat.le_of_ble_eq_true rfl⟩) (q_preV hK hP (ci := 11) (q0 := 0) rfl rfl rfl (q_preF hN hK hP hD)) rfl rfl hl.1 rfl (lv_room (Nat.le_of_ble_eq_true rfl)) dX11_stuck_23 ⟨Nat.le_of_ble_eq_true rfl, Nat.le_of_ble_eq_true rfl⟩) hD hS hA (fun r4 w1 H locs hw hP hD hS => ?_)
    obtain ⟨hq_, hw⟩ := hw; subst hw; subst hq_
    refine lv_if_eq (tgt := 43) hx hb dX11_stuck_26 (by decide) (fun c5 => ?_) (fun c5 => ?_)
    · have hB := if_p hB c5
      exact br_stuck_43 (hk8) _ _ _ hB p e s0 m below meth c A E H locs ls hP hD hS (lv_sub hl [0, 1, 2] rfl)
    · have hB := if_n hB c5
      refine lv_aload_n hx hb dX11_stuck_29 rfl (lv_at hl 0 rfl) ?_
      refine lv_iload_n hx hb dX11_stuck_30 rfl (lv_at hl 2 rfl) ?_
      obtain ⟨q_, s6, hc, hB⟩ := bindI_inv hB
      refine q_goiF (va_runV (As := [.int x2]) (rest := []) C (cr_bestFor hc _) (cwV 1 hts gX11_stuck_X11_bestFor rfl rfl rfl (by decide +kernel) ⟨Nat.le_of_ble_eq_true rfl, Nat.le_of_ble_eq_true rfl⟩) (q_preV hK hP (ci := 11) (q0 := 0) rfl rfl rfl (q_preF hN hK hP hD)) rfl rfl hl.1 rfl (lv_room (Nat.le_of_ble_eq_true rfl)) dX11_stuck_31 ⟨Nat.le_of_ble_eq_true rfl, Nat.le_of_ble_eq_true rfl⟩) hD hS hA (fun r7 w1 H locs hw hP hD hS => ?_)
      obtain ⟨hq_, hw⟩ := hw; subst hw; subst hq_
      refine lv_if_ge (tgt := 43) hx hb dX11_stuck_34 (by decide) (fun c8 => ?_) (fun c8 => ?_)
      · have hB := if_p hB c8
        exact br_stuck_43 (hk8) _ _ _ hB p e s0 m below meth c A E H locs ls hP hD hS (lv_sub hl [0, 1, 2] rfl)
      · have hB := if_n hB c8
        refine lv_iload_n hx hb dX11_stuck_37 rfl (lv_at hl 1 rfl) ?_
        refine lv_iconst (v := 1) hx hb dX11_stuck_38 (by decide) ?_
        refine lv_iload_n hx hb dX11_stuck_39 rfl (lv_at hl 2 rfl) ?_
        refine lv_ishl hx hb dX11_stuck_40 ?_
        refine lv_ior hx hb dX11_stuck_41 ?_
        refine lv_istore_n (lv' := [(1, .int (x1 ||| (1 <<< (x2 &&& 31)))), (0, .ref h), (2, .int x2)]) hx hb dX11_stuck_42 rfl hl (by decide) rfl (fun ls hl => ?_)
        exact br_stuck_43 (hk8) _ _ _ hB p e s0 m below meth c A E H locs ls hP hD hS (lv_sub hl [1, 0, 2] rfl)
theorem br_stuck_8L {l : Launch} {dC : Nat → ClassId} {dI : Nat → Nat → Nat} {cB cI cJ cZ cS : ClassId} {h : Nat} {a : Nat → Nat} {as : List Value} {r : Int32} {s' : RS} : ∀ (n : Nat) (s : RS) (x1 : Int32) (x2 : Int32), r_stuck_8L n s x1 x2 = some (r, s') → BlkI l yX11_stuck wsX11_stuck ({ frames := 6, cells := 0, slots := 0, locals := 137 }) cX11_stuck 3 (some .int) (dC, dI) (tysA cB cI cJ cZ cS) as 8 (mwS cB cI cJ cZ h a s) [(0, .ref h), (1, .int x1), (2, .int x2)] [] (fun x u => x = r ∧ u = (mwS cB cI cJ cZ h a s')) := by
  intro n
  induction n with
  | zero => intro s x1 x2 hB; exact none_ne hB
  | succ n ih => intro s x1 x2 hB; exact br_stuck_8 ih _ _ _ hB
set_option maxHeartbeats 4000000 in
set_option maxRecDepth 100000 in
theorem br_stuck {l : Launch} {dC : Nat → ClassId} {dI : Nat → Nat → Nat} {cB cI cJ cZ cS : ClassId} {h : Nat} {a : Nat → Nat} {as : List Value} {r : Int32} {s' : RS} (s : RS) (hB : r_stuck s = some (r, s')) : BlkI l yX11_stuck wsX11_stuck ({ frames := 6, cells := 0, slots := 0, locals := 137 }) cX11_stuck 3 (some .int) (dC, dI) (tysA cB cI cJ cZ cS) as 0 (mwS cB cI cJ cZ h a s) [(0, .ref h)] [] (fun x u => x = r ∧ u = (mwS cB cI cJ cZ h a s')) := by
  intro p e s0 m below meth c A E H locs ls hP hD hS hl
  obtain ⟨C, hr, hlocks, hA, hK, hN⟩ := id E
  obtain ⟨hx, hb, hml, hown, hts⟩ := id C
  unfold r_stuck at hB
  refine lv_aload_n hx hb dX11_stuck_0 rfl (lv_at hl 0 rfl) ?_
  obtain ⟨s1, hc, hB⟩ := bindP_inv hB
  refine q_govF (va_runV (As := []) (rest := []) C (cr_copies hc _) (cwV 0 hts gX11_stuck_X11_copies rfl rfl rfl (by decide +kernel) ⟨Nat.le_of_ble_eq_true rfl, Nat.le_of_ble_eq_true rfl⟩) (q_preV hK hP (ci := 11) (q0 := 0) rfl rfl rfl (q_preF hN hK hP hD)) rfl rfl hl.1 rfl (lv_room (Nat.le_of_ble_eq_true rfl)) dX11_stuck_1 ⟨Nat.le_of_ble_eq_true rfl, Nat.le_of_ble_eq_true rfl⟩) hD hS hA (fun w1 H locs hw hP hD hS => ?_)
  subst hw
  refine lv_iconst (v := 0) hx hb dX11_stuck_4 (by decide) ?_
  refine lv_istore_n (lv' := [(1, .int 0), (0, .ref h)]) hx hb dX11_stuck_5 rfl hl (by decide) rfl (fun ls hl => ?_)
  refine lv_iconst (v := 0) hx hb dX11_stuck_6 (by decide) ?_
  refine lv_istore_n (lv' := [(2, .int 0), (1, .int 0), (0, .ref h)]) hx hb dX11_stuck_7 rfl hl (by decide) rfl (fun ls hl => ?_)
  exact br_stuck_8L fu _ _ _ hB p e s0 m below meth c A E H locs ls hP hD hS (lv_sub hl [2, 1, 0] rfl)
theorem cr_stuck {l : Launch} {dC : Nat → ClassId} {dI : Nat → Nat → Nat} {cB cI cJ cZ cS : ClassId} {h : Nat} {a : Nat → Nat} {r : Int32} {s' : RS} {s : RS} (hB : r_stuck s = some (r, s')) : CI l yX11_stuck wsX11_stuck ({ frames := 6, cells := 0, slots := 0, locals := 137 }) (dC, dI) (tysA cB cI cJ cZ cS) (mwS cB cI cJ cZ h a s) [.ref h] (fun x u => x = r ∧ u = (mwS cB cI cJ cZ h a s')) :=
  CI_of (cc := cX11_stuck) (maxL := 3) (ret := (some .int)) (by decide) rfl (Nat.le_of_ble_eq_true rfl) (br_stuck _ hB)
set_option maxHeartbeats 4000000 in
set_option maxRecDepth 100000 in
theorem br_spread_80 {l : Launch} {dC : Nat → ClassId} {dI : Nat → Nat → Nat} {cB cI cJ cZ cS : ClassId} {h : Nat} {a : Nat → Nat} {as : List Value} {r : Int32} {s' : RS} {k22 : RS → Int32 → Int32 → Int32 → Int32 → Option (Int32 × RS)} (hk22 : ∀ (s : RS) (x1 : Int32) (x2 : Int32) (x3 : Int32) (x4 : Int32), k22 s x1 x2 x3 x4 = some (r, s') → BlkI l yX11_spread wsX11_spread ({ frames := 3, cells := 0, slots := 0, locals := 67 }) cX11_spread 5 (some .int) (dC, dI) (tysA cB cI cJ cZ cS) as 22 (mwS cB cI cJ cZ h a s) [(0, .ref h), (1, .int x1), (2, .int x2), (3, .int x3), (4, .int x4)] [] (fun x u => x = r ∧ u = (mwS cB cI cJ cZ h a s'))) (s : RS) (x1 : Int32) (x2 : Int32) (x3 : Int32) (x4 : Int32) (hB : r_spread_80 k22 s x1 x2 x3 x4 = some (r, s')) : BlkI l yX11_spread wsX11_spread ({ frames := 3, cells := 0, slots := 0, locals := 67 }) cX11_spread 5 (some .int) (dC, dI) (tysA cB cI cJ cZ cS) as 80 (mwS cB cI cJ cZ h a s) [(0, .ref h), (1, .int x1), (2, .int x2), (3, .int x3), (4, .int x4)] [] (fun x u => x = r ∧ u = (mwS cB cI cJ cZ h a s')) := by
  intro p e s0 m below meth c A E H locs ls hP hD hS hl
  obtain ⟨C, hr, hlocks, hA, hK, hN⟩ := id E
  obtain ⟨hx, hb, hml, hown, hts⟩ := id C
  unfold r_spread_80 at hB
  refine lv_iinc (v := (x4 + 1)) (lv' := [(4, .int (x4 + 1)), (0, .ref h), (1, .int x1), (2, .int x2), (3, .int x3)]) hx hb dX11_spread_80 hl (k := 4) rfl (rfl) (by decide) rfl (fun ls hl => ?_)
  refine lv_goto (tgt := 22) hx hb dX11_spread_83 (by decide) ?_
  exact hk22 _ _ _ _ _ hB p e s0 m below meth c A E H locs ls hP hD hS (lv_sub hl [1, 2, 3, 4, 0] rfl)
set_option maxHeartbeats 4000000 in
set_option maxRecDepth 100000 in
theorem br_spread_61 {l : Launch} {dC : Nat → ClassId} {dI : Nat → Nat → Nat} {cB cI cJ cZ cS : ClassId} {h : Nat} {a : Nat → Nat} {as : List Value} {r : Int32} {s' : RS} {k22 : RS → Int32 → Int32 → Int32 → Int32 → Option (Int32 × RS)} (hk22 : ∀ (s : RS) (x1 : Int32) (x2 : Int32) (x3 : Int32) (x4 : Int32), k22 s x1 x2 x3 x4 = some (r, s') → BlkI l yX11_spread wsX11_spread ({ frames := 3, cells := 0, slots := 0, locals := 67 }) cX11_spread 5 (some .int) (dC, dI) (tysA cB cI cJ cZ cS) as 22 (mwS cB cI cJ cZ h a s) [(0, .ref h), (1, .int x1), (2, .int x2), (3, .int x3), (4, .int x4)] [] (fun x u => x = r ∧ u = (mwS cB cI cJ cZ h a s'))) (s : RS) (x1 : Int32) (x2 : Int32) (x3 : Int32) (x4 : Int32) (hB : r_spread_61 k22 s x1 x2 x3 x4 = some (r, s')) : BlkI l yX11_spread wsX11_spread ({ frames := 3, cells := 0, slots := 0, locals := 67 }) cX11_spread 5 (some .int) (dC, dI) (tysA cB cI cJ cZ cS) as 61 (mwS cB cI cJ cZ h a s) [(0, .ref h), (1, .int x1), (2, .int x2), (3, .int x3), (4, .int x4)] [] (fun x u => x = r ∧ u = (mwS cB cI cJ cZ h a s')) := by
  intro p e s0 m below meth c A E H locs ls hP hD hS hl
  obtain ⟨C, hr, hlocks, hA, hK, hN⟩ := id E
  obtain ⟨hx, hb, hml, hown, hts⟩ := id C
  unfold r_spread_61 at hB
  refine lv_aload_n hx hb dX11_spread_61 rfl (lv_at hl 0 rfl) ?_
  refine lv_iload_n hx hb dX11_spread_62 rfl (lv_at hl 1 rfl) ?_
  refine lv_iload hx hb dX11_spread_63 (lv_at hl 4 rfl) ?_
  obtain ⟨q_, s1, hc, hB⟩ := bindI_inv hB
  refine q_goiF (va_runV (As := [.int x1, .int x4]) (rest := []) C (cr_oddsAt hc _) (cwV 2 hts gX11_spread_X11_oddsAt rfl rfl rfl (by decide +kernel) ⟨Nat.le_of_ble_eq_true rfl, Nat.le_of_ble_eq_true rfl⟩) (q_preV hK hP (ci := 11) (q0 := 0) rfl rfl rfl (q_preF hN hK hP hD)) rfl rfl hl.1 rfl (lv_room (Nat.le_of_ble_eq_true rfl)) dX11_spread_65 ⟨Nat.le_of_ble_eq_true rfl, Nat.le_of_ble_eq_true rfl⟩) hD hS hA (fun r2 w1 H locs hw hP hD hS => ?_)
  obtain ⟨hq_, hw⟩ := hw; subst hw; subst hq_
  refine lv_iload_n hx hb dX11_spread_68 rfl (lv_at hl 3 rfl) ?_
  refine lv_icmp_ge (tgt := 80) hx hb dX11_spread_69 (by decide) (fun c3 => ?_) (fun c3 => ?_)
  · have hB := if_p hB c3
    exact br_spread_80 (hk22) _ _ _ _ _ hB p e s0 m below meth c A E H locs ls hP hD hS (lv_sub hl [0, 1, 2, 3, 4] rfl)
  · have hB := if_n hB c3
    refine lv_aload_n hx hb dX11_spread_72 rfl (lv_at hl 0 rfl) ?_
    refine lv_iload_n hx hb dX11_spread_73 rfl (lv_at hl 1 rfl) ?_
    refine lv_iload hx hb dX11_spread_74 (lv_at hl 4 rfl) ?_
    obtain ⟨q_, s4, hc, hB⟩ := bindI_inv hB
    refine q_goiF (va_runV (As := [.int x1, .int x4]) (rest := []) C (cr_oddsAt hc _) (cwV 2 hts gX11_spread_X11_oddsAt rfl rfl rfl (by decide +kernel) ⟨Nat.le_of_ble_eq_true rfl, Nat.le_of_ble_eq_true rfl⟩) (q_preV hK hP (ci := 11) (q0 := 0) rfl rfl rfl (q_preF hN hK hP hD)) rfl rfl hl.1 rfl (lv_room (Nat.le_of_ble_eq_true rfl)) dX11_spread_76 ⟨Nat.le_of_ble_eq_true rfl, Nat.le_of_ble_eq_true rfl⟩) hD hS hA (fun r5 w1 H locs hw hP hD hS => ?_)
    obtain ⟨hq_, hw⟩ := hw; subst hw; subst hq_
    refine lv_istore_n (lv' := [(3, .int r5), (0, .ref h), (1, .int x1), (2, .int x2), (4, .int x4)]) hx hb dX11_spread_79 rfl hl (by decide) rfl (fun ls hl => ?_)
    exact br_spread_80 (hk22) _ _ _ _ _ hB p e s0 m below meth c A E H locs ls hP hD hS (lv_sub hl [1, 2, 3, 0, 4] rfl)
set_option maxHeartbeats 4000000 in
set_option maxRecDepth 100000 in
theorem br_spread_22 {l : Launch} {dC : Nat → ClassId} {dI : Nat → Nat → Nat} {cB cI cJ cZ cS : ClassId} {h : Nat} {a : Nat → Nat} {as : List Value} {r : Int32} {s' : RS} {k22 : RS → Int32 → Int32 → Int32 → Int32 → Option (Int32 × RS)} (hk22 : ∀ (s : RS) (x1 : Int32) (x2 : Int32) (x3 : Int32) (x4 : Int32), k22 s x1 x2 x3 x4 = some (r, s') → BlkI l yX11_spread wsX11_spread ({ frames := 3, cells := 0, slots := 0, locals := 67 }) cX11_spread 5 (some .int) (dC, dI) (tysA cB cI cJ cZ cS) as 22 (mwS cB cI cJ cZ h a s) [(0, .ref h), (1, .int x1), (2, .int x2), (3, .int x3), (4, .int x4)] [] (fun x u => x = r ∧ u = (mwS cB cI cJ cZ h a s'))) (s : RS) (x1 : Int32) (x2 : Int32) (x3 : Int32) (x4 : Int32) (hB : r_spread_22 k22 s x1 x2 x3 x4 = some (r, s')) : BlkI l yX11_spread wsX11_spread ({ frames := 3, cells := 0, slots := 0, locals := 67 }) cX11_spread 5 (some .int) (dC, dI) (tysA cB cI cJ cZ cS) as 22 (mwS cB cI cJ cZ h a s) [(0, .ref h), (1, .int x1), (2, .int x2), (3, .int x3), (4, .int x4)] [] (fun x u => x = r ∧ u = (mwS cB cI cJ cZ h a s')) := by
  intro p e s0 m below meth c A E H locs ls hP hD hS hl
  obtain ⟨C, hr, hlocks, hA, hK, hN⟩ := id E
  obtain ⟨hx, hb, hml, hown, hts⟩ := id C
  unfold r_spread_22 at hB
  refine lv_iload hx hb dX11_spread_22 (lv_at hl 4 rfl) ?_
  refine lv_bipush (v := 6) hx hb dX11_spread_24 (by decide) ?_
  refine lv_icmp_ge (tgt := 86) hx hb dX11_spread_26 (by decide) (fun c1 => ?_) (fun c1 => ?_)
  · have hB := if_p hB c1
    refine lv_iload_n hx hb dX11_spread_86 rfl (lv_at hl 2 rfl) ?_
    refine lv_iload_n hx hb dX11_spread_87 rfl (lv_at hl 3 rfl) ?_
    refine lv_icmp_ge (tgt := 95) hx hb dX11_spread_88 (by decide) (fun c2 => ?_) (fun c2 => ?_)
    · have hB := if_p hB c2
      refine lv_iload_n hx hb dX11_spread_95 rfl (lv_at hl 2 rfl) ?_
      refine lv_iload_n hx hb dX11_spread_96 rfl (lv_at hl 3 rfl) ?_
      refine lv_isub hx hb dX11_spread_97 ?_
      exact q_iret C hr hlocks hK hP hD hS (Nat.le_of_ble_eq_true rfl) (Nat.le_of_ble_eq_true rfl) dX11_spread_98 (by cases hB; exact ⟨rfl, rfl⟩)
    · have hB := if_n hB c2
      refine lv_iconst (v := 0) hx hb dX11_spread_91 (by decide) ?_
      refine lv_goto (tgt := 98) hx hb dX11_spread_92 (by decide) ?_
      exact q_iret C hr hlocks hK hP hD hS (Nat.le_of_ble_eq_true rfl) (Nat.le_of_ble_eq_true rfl) dX11_spread_98 (by cases hB; exact ⟨rfl, rfl⟩)
  · have hB := if_n hB c1
    refine lv_aload_n hx hb dX11_spread_29 rfl (lv_at hl 0 rfl) ?_
    refine lv_iload_n hx hb dX11_spread_30 rfl (lv_at hl 1 rfl) ?_
    refine lv_iload hx hb dX11_spread_31 (lv_at hl 4 rfl) ?_
    obtain ⟨q_, s3, hc, hB⟩ := bindI_inv hB
    refine q_goiF (va_runV (As := [.int x1, .int x4]) (rest := []) C (cr_mayBe hc _) (cwV 2 hts gX11_spread_X11_mayBe rfl rfl rfl (by decide +kernel) ⟨Nat.le_of_ble_eq_true rfl, Nat.le_of_ble_eq_true rfl⟩) (q_preV hK hP (ci := 11) (q0 := 0) rfl rfl rfl (q_preF hN hK hP hD)) rfl rfl hl.1 rfl (lv_room (Nat.le_of_ble_eq_true rfl)) dX11_spread_33 ⟨Nat.le_of_ble_eq_true rfl, Nat.le_of_ble_eq_true rfl⟩) hD hS hA (fun r4 w1 H locs hw hP hD hS => ?_)
    obtain ⟨hq_, hw⟩ := hw; subst hw; subst hq_
    refine lv_if_ne (tgt := 42) hx hb dX11_spread_36 (by decide) (fun c5 => ?_) (fun c5 => ?_)
    · have hB := if_n hB c5
      refine lv_aload_n hx hb dX11_spread_42 rfl (lv_at hl 0 rfl) ?_
      refine lv_iload_n hx hb dX11_spread_43 rfl (lv_at hl 1 rfl) ?_
      refine lv_iload hx hb dX11_spread_44 (lv_at hl 4 rfl) ?_
      obtain ⟨q_, s6, hc, hB⟩ := bindI_inv hB
      refine q_goiF (va_runV (As := [.int x1, .int x4]) (rest := []) C (cr_oddsAt hc _) (cwV 2 hts gX11_spread_X11_oddsAt rfl rfl rfl (by decide +kernel) ⟨Nat.le_of_ble_eq_true rfl, Nat.le_of_ble_eq_true rfl⟩) (q_preV hK hP (ci := 11) (q0 := 0) rfl rfl rfl (q_preF hN hK hP hD)) rfl rfl hl.1 rfl (lv_room (Nat.le_of_ble_eq_true rfl)) dX11_spread_46 ⟨Nat.le_of_ble_eq_true rfl, Nat.le_of_ble_eq_true rfl⟩) hD hS hA (fun r7 w1 H locs hw hP hD hS => ?_)
      obtain ⟨hq_, hw⟩ := hw; subst hw; subst hq_
      refine lv_iload_n hx hb dX11_spread_49 rfl (lv_at hl 2 rfl) ?_
      refine lv_icmp_le (tgt := 61) hx hb dX11_spread_50 (by decide) (fun c8 => ?_) (fun c8 => ?_)
      · have hB := if_p hB c8
        exact br_spread_61 (hk22) _ _ _ _ _ hB p e s0 m below meth c A E H locs ls hP hD hS (lv_sub hl [0, 1, 2, 3, 4] rfl)
      · have hB := if_n hB c8
        refine lv_aload_n hx hb dX11_spread_53 rfl (lv_at hl 0 rfl) ?_
        refine lv_iload_n hx hb dX11_spread_54 rfl (lv_at hl 1 rfl) ?_
        refine lv_iload hx hb dX11_spread_55 (lv_at hl 4 rfl) ?_
        obtain ⟨q_, s9, hc, hB⟩ := bindI_inv hB
        refine q_goiF (va_runV (As := [.int x1, .int x4]) (rest := []) C (cr_oddsAt hc _) (cwV 2 hts gX11_spread_X11_oddsAt rfl rfl rfl (by decide +kernel) ⟨Nat.le_of_ble_eq_true rfl, Nat.le_of_ble_eq_true rfl⟩) (q_preV hK hP (ci := 11) (q0 := 0) rfl rfl rfl (q_preF hN hK hP hD)) rfl rfl hl.1 rfl (lv_room (Nat.le_of_ble_eq_true rfl)) dX11_spread_57 ⟨Nat.le_of_ble_eq_true rfl, Nat.le_of_ble_eq_true rfl⟩) hD hS hA (fun r10 w1 H locs hw hP hD hS => ?_)
        obtain ⟨hq_, hw⟩ := hw; subst hw; subst hq_
        refine lv_istore_n (lv' := [(2, .int r10), (0, .ref h), (1, .int x1), (3, .int x3), (4, .int x4)]) hx hb dX11_spread_60 rfl hl (by decide) rfl (fun ls hl => ?_)
        exact br_spread_61 (hk22) _ _ _ _ _ hB p e s0 m below meth c A E H locs ls hP hD hS (lv_sub hl [1, 2, 0, 3, 4] rfl)
    · have hB := if_p hB c5
      refine lv_goto (tgt := 80) hx hb dX11_spread_39 (by decide) ?_
      exact br_spread_80 (hk22) _ _ _ _ _ hB p e s0 m below meth c A E H locs ls hP hD hS (lv_sub hl [0, 1, 2, 3, 4] rfl)
theorem br_spread_22L {l : Launch} {dC : Nat → ClassId} {dI : Nat → Nat → Nat} {cB cI cJ cZ cS : ClassId} {h : Nat} {a : Nat → Nat} {as : List Value} {r : Int32} {s' : RS} : ∀ (n : Nat) (s : RS) (x1 : Int32) (x2 : Int32) (x3 : Int32) (x4 : Int32), r_spread_22L n s x1 x2 x3 x4 = some (r, s') → BlkI l yX11_spread wsX11_spread ({ frames := 3, cells := 0, slots := 0, locals := 67 }) cX11_spread 5 (some .int) (dC, dI) (tysA cB cI cJ cZ cS) as 22 (mwS cB cI cJ cZ h a s) [(0, .ref h), (1, .int x1), (2, .int x2), (3, .int x3), (4, .int x4)] [] (fun x u => x = r ∧ u = (mwS cB cI cJ cZ h a s')) := by
  intro n
  induction n with
  | zero => intro s x1 x2 x3 x4 hB; exact none_ne hB
  | succ n ih => intro s x1 x2 x3 x4 hB; exact br_spread_22 ih _ _ _ _ _ hB
set_option maxHeartbeats 4000000 in
set_option maxRecDepth 100000 in
theorem br_spread {l : Launch} {dC : Nat → ClassId} {dI : Nat → Nat → Nat} {cB cI cJ cZ cS : ClassId} {h : Nat} {a : Nat → Nat} {as : List Value} {r : Int32} {s' : RS} (s : RS) (x1 : Int32) (hB : r_spread s x1 = some (r, s')) : BlkI l yX11_spread wsX11_spread ({ frames := 3, cells := 0, slots := 0, locals := 67 }) cX11_spread 5 (some .int) (dC, dI) (tysA cB cI cJ cZ cS) as 0 (mwS cB cI cJ cZ h a s) [(0, .ref h), (1, .int x1)] [] (fun x u => x = r ∧ u = (mwS cB cI cJ cZ h a s')) := by
  intro p e s0 m below meth c A E H locs ls hP hD hS hl
  obtain ⟨C, hr, hlocks, hA, hK, hN⟩ := id E
  obtain ⟨hx, hb, hml, hown, hts⟩ := id C
  unfold r_spread at hB
  refine lv_aload_n hx hb dX11_spread_0 rfl (lv_at hl 0 rfl) ?_
  refine lv_iload_n hx hb dX11_spread_1 rfl (lv_at hl 1 rfl) ?_
  obtain ⟨q_, s1, hc, hB⟩ := bindI_inv hB
  refine q_goiF (va_runV (As := [.int x1]) (rest := []) C (cr_isWave hc _) (cwV 1 hts gX11_spread_X11_isWave rfl rfl rfl (by decide +kernel) ⟨Nat.le_of_ble_eq_true rfl, Nat.le_of_ble_eq_true rfl⟩) (q_preV hK hP (ci := 11) (q0 := 0) rfl rfl rfl (q_preF hN hK hP hD)) rfl rfl hl.1 rfl (lv_room (Nat.le_of_ble_eq_true rfl)) dX11_spread_2 ⟨Nat.le_of_ble_eq_true rfl, Nat.le_of_ble_eq_true rfl⟩) hD hS hA (fun r2 w1 H locs hw hP hD hS => ?_)
  obtain ⟨hq_, hw⟩ := hw; subst hw; subst hq_
  refine lv_if_ne (tgt := 10) hx hb dX11_spread_5 (by decide) (fun c3 => ?_) (fun c3 => ?_)
  · have hB := if_n hB c3
    refine lv_aload_n hx hb dX11_spread_10 rfl (lv_at hl 0 rfl) ?_
    obtain ⟨s4, hc, hB⟩ := bindP_inv hB
    refine q_govF (va_runV (As := []) (rest := []) C (cr_copies hc _) (cwV 0 hts gX11_spread_X11_copies rfl rfl rfl (by decide +kernel) ⟨Nat.le_of_ble_eq_true rfl, Nat.le_of_ble_eq_true rfl⟩) (q_preV hK hP (ci := 11) (q0 := 0) rfl rfl rfl (q_preF hN hK hP hD)) rfl rfl hl.1 rfl (lv_room (Nat.le_of_ble_eq_true rfl)) dX11_spread_11 ⟨Nat.le_of_ble_eq_true rfl, Nat.le_of_ble_eq_true rfl⟩) hD hS hA (fun w1 H locs hw hP hD hS => ?_)
    subst hw
    refine lv_iconst (v := 0) hx hb dX11_spread_14 (by decide) ?_
    refine lv_istore_n (lv' := [(2, .int 0), (0, .ref h), (1, .int x1)]) hx hb dX11_spread_15 rfl hl (by decide) rfl (fun ls hl => ?_)
    refine lv_bipush (v := 10) hx hb dX11_spread_16 (by decide) ?_
    refine lv_istore_n (lv' := [(3, .int 10), (2, .int 0), (0, .ref h), (1, .int x1)]) hx hb dX11_spread_18 rfl hl (by decide) rfl (fun ls hl => ?_)
    refine lv_iconst (v := 0) hx hb dX11_spread_19 (by decide) ?_
    refine lv_istore (lv' := [(4, .int 0), (3, .int 10), (2, .int 0), (0, .ref h), (1, .int x1)]) hx hb dX11_spread_20 hl (by decide) rfl (fun ls hl => ?_)
    exact br_spread_22L fu _ _ _ _ _ hB p e s0 m below meth c A E H locs ls hP hD hS (lv_sub hl [3, 4, 2, 1, 0] rfl)
  · have hB := if_p hB c3
    refine lv_iconst (v := (-1)) hx hb dX11_spread_8 (by decide) ?_
    exact q_iret C hr hlocks hK hP hD hS (Nat.le_of_ble_eq_true rfl) (Nat.le_of_ble_eq_true rfl) dX11_spread_9 (by cases hB; exact ⟨rfl, rfl⟩)
theorem cr_spread {l : Launch} {dC : Nat → ClassId} {dI : Nat → Nat → Nat} {cB cI cJ cZ cS : ClassId} {h : Nat} {a : Nat → Nat} {r : Int32} {s' : RS} {s : RS} {x1 : Int32} (hB : r_spread s x1 = some (r, s')) : CI l yX11_spread wsX11_spread ({ frames := 3, cells := 0, slots := 0, locals := 67 }) (dC, dI) (tysA cB cI cJ cZ cS) (mwS cB cI cJ cZ h a s) [.ref h, .int x1] (fun x u => x = r ∧ u = (mwS cB cI cJ cZ h a s')) :=
  CI_of (cc := cX11_spread) (maxL := 5) (ret := (some .int)) (by decide) rfl (Nat.le_of_ble_eq_true rfl) (br_spread _ _ hB)
theorem LX11_dearest_215 : Cond.fieldLink RX11 215 "GuessFerryModel" "live" "I" ∈ wsX11_dearest := by decide +kernel
theorem LX11_dearest_49 : Cond.fieldLink RX11 49 "GuessFerryModel" "parties" "[I" ∈ wsX11_dearest := by decide +kernel
theorem inX11_dearest_X11 : ∀ w ∈ u_ws RX11 TX11 58, w ∈ wsX11_dearest := by decide +kernel
set_option maxHeartbeats 4000000 in
set_option maxRecDepth 100000 in
theorem br_dearest_52 {l : Launch} {dC : Nat → ClassId} {dI : Nat → Nat → Nat} {cB cI cJ cZ cS : ClassId} {h : Nat} {a : Nat → Nat} {as : List Value} {r : Int32} {s' : RS} {k20 : RS → Int32 → Int32 → Int32 → Option (Int32 × RS)} (hk20 : ∀ (s : RS) (x1 : Int32) (x2 : Int32) (x3 : Int32), k20 s x1 x2 x3 = some (r, s') → BlkI l yX11_dearest wsX11_dearest ({ frames := 3, cells := 0, slots := 0, locals := 74 }) cX11_dearest 4 (some .int) (dC, dI) (tysA cB cI cJ cZ cS) as 20 (mwS cB cI cJ cZ h a s) [(0, .ref h), (1, .int x1), (2, .int x2), (3, .int x3)] [] (fun x u => x = r ∧ u = (mwS cB cI cJ cZ h a s'))) (s : RS) (x1 : Int32) (x2 : Int32) (x3 : Int32) (hB : r_dearest_52 k20 s x1 x2 x3 = some (r, s')) : BlkI l yX11_dearest wsX11_dearest ({ frames := 3, cells := 0, slots := 0, locals := 74 }) cX11_dearest 4 (some .int) (dC, dI) (tysA cB cI cJ cZ cS) as 52 (mwS cB cI cJ cZ h a s) [(0, .ref h), (1, .int x1), (2, .int x2), (3, .int x3)] [] (fun x u => x = r ∧ u = (mwS cB cI cJ cZ h a s')) := by
  intro p e s0 m below meth c A E H locs ls hP hD hS hl
  obtain ⟨C, hr, hlocks, hA, hK, hN⟩ := id E
  obtain ⟨hx, hb, hml, hown, hts⟩ := id C
  unfold r_dearest_52 at hB
  refine lv_iinc (v := (x3 + 1)) (lv' := [(3, .int (x3 + 1)), (0, .ref h), (1, .int x1), (2, .int x2)]) hx hb dX11_dearest_52 hl (k := 3) rfl (rfl) (by decide) rfl (fun ls hl => ?_)
  refine lv_goto (tgt := 20) hx hb dX11_dearest_55 (by decide) ?_
  exact hk20 _ _ _ _ hB p e s0 m below meth c A E H locs ls hP hD hS (lv_sub hl [1, 2, 3, 0] rfl)
set_option maxHeartbeats 4000000 in
set_option maxRecDepth 100000 in
theorem br_dearest_50 {l : Launch} {dC : Nat → ClassId} {dI : Nat → Nat → Nat} {cB cI cJ cZ cS : ClassId} {h : Nat} {a : Nat → Nat} {as : List Value} {r : Int32} {s' : RS} {k20 : RS → Int32 → Int32 → Int32 → Option (Int32 × RS)} (hk20 : ∀ (s : RS) (x1 : Int32) (x2 : Int32) (x3 : Int32), k20 s x1 x2 x3 = some (r, s') → BlkI l yX11_dearest wsX11_dearest ({ frames := 3, cells := 0, slots := 0, locals := 74 }) cX11_dearest 4 (some .int) (dC, dI) (tysA cB cI cJ cZ cS) as 20 (mwS cB cI cJ cZ h a s) [(0, .ref h), (1, .int x1), (2, .int x2), (3, .int x3)] [] (fun x u => x = r ∧ u = (mwS cB cI cJ cZ h a s'))) (s : RS) (x1 : Int32) (x3 : Int32) (hB : r_dearest_50 k20 s x1 x3 = some (r, s')) : BlkI l yX11_dearest wsX11_dearest ({ frames := 3, cells := 0, slots := 0, locals := 74 }) cX11_dearest 4 (some .int) (dC, dI) (tysA cB cI cJ cZ cS) as 50 (mwS cB cI cJ cZ h a s) [(0, .ref h), (1, .int x1), (3, .int x3)] [] (fun x u => x = r ∧ u = (mwS cB cI cJ cZ h a s')) := by
  intro p e s0 m below meth c A E H locs ls hP hD hS hl
  obtain ⟨C, hr, hlocks, hA, hK, hN⟩ := id E
  obtain ⟨hx, hb, hml, hown, hts⟩ := id C
  unfold r_dearest_50 at hB
  refine lv_iload_n hx hb dX11_dearest_50 rfl (lv_at hl 2 rfl) ?_
  refine lv_istore_n (lv' := [(2, .int x3), (0, .ref h), (1, .int x1), (3, .int x3)]) hx hb dX11_dearest_51 rfl hl (by decide) rfl (fun ls hl => ?_)
  exact br_dearest_52 (hk20) _ _ _ _ hB p e s0 m below meth c A E H locs ls hP hD hS (lv_sub hl [1, 2, 0, 3] rfl)
set_option maxHeartbeats 4000000 in
set_option maxRecDepth 100000 in
theorem br_dearest_20 {l : Launch} {dC : Nat → ClassId} {dI : Nat → Nat → Nat} {cB cI cJ cZ cS : ClassId} {h : Nat} {a : Nat → Nat} {as : List Value} {r : Int32} {s' : RS} {k20 : RS → Int32 → Int32 → Int32 → Option (Int32 × RS)} (hk20 : ∀ (s : RS) (x1 : Int32) (x2 : Int32) (x3 : Int32), k20 s x1 x2 x3 = some (r, s') → BlkI l yX11_dearest wsX11_dearest ({ frames := 3, cells := 0, slots := 0, locals := 74 }) cX11_dearest 4 (some .int) (dC, dI) (tysA cB cI cJ cZ cS) as 20 (mwS cB cI cJ cZ h a s) [(0, .ref h), (1, .int x1), (2, .int x2), (3, .int x3)] [] (fun x u => x = r ∧ u = (mwS cB cI cJ cZ h a s'))) (s : RS) (x1 : Int32) (x2 : Int32) (x3 : Int32) (hB : r_dearest_20 k20 s x1 x2 x3 = some (r, s')) : BlkI l yX11_dearest wsX11_dearest ({ frames := 3, cells := 0, slots := 0, locals := 74 }) cX11_dearest 4 (some .int) (dC, dI) (tysA cB cI cJ cZ cS) as 20 (mwS cB cI cJ cZ h a s) [(0, .ref h), (1, .int x1), (2, .int x2), (3, .int x3)] [] (fun x u => x = r ∧ u = (mwS cB cI cJ cZ h a s')) := by
  intro p e s0 m below meth c A E H locs ls hP hD hS hl
  obtain ⟨C, hr, hlocks, hA, hK, hN⟩ := id E
  obtain ⟨hx, hb, hml, hown, hts⟩ := id C
  unfold r_dearest_20 at hB
  refine lv_iload_n hx hb dX11_dearest_20 rfl (lv_at hl 3 rfl) ?_
  refine lv_aload_n hx hb dX11_dearest_21 rfl (lv_at hl 0 rfl) ?_
  refine q_get (v := .ref (a 23)) C inX11_dearest_X11 hK hP 0 rfl rfl 23 (by decide) rfl LX11_dearest_49 rfl dX11_dearest_22 ?_
  refine lv_aload_n hx hb dX11_dearest_25 rfl (lv_at hl 0 rfl) ?_
  refine q_get (v := .int (s.v 18)) C inX11_dearest_X11 hK hP 0 rfl rfl 18 (by decide) rfl LX11_dearest_215 rfl dX11_dearest_26 ?_
  obtain ⟨g1, hB⟩ := guard_inv hB
  refine q_iald (x := (s.f 23 (Int32.toNatClampNeg (s.v 18)))) C hK hP 11 1 rfl rfl (vpb_in g1) dX11_dearest_29 rfl ?_
  refine lv_icmp_ge (tgt := 58) hx hb dX11_dearest_30 (by decide) (fun c2 => ?_) (fun c2 => ?_)
  · have hB := if_p hB c2
    refine lv_iload_n hx hb dX11_dearest_58 rfl (lv_at hl 2 rfl) ?_
    refine lv_if_lt (tgt := 66) hx hb dX11_dearest_59 (by decide) (fun c3 => ?_) (fun c3 => ?_)
    · have hB := if_p hB c3
      refine lv_iload_n hx hb dX11_dearest_66 rfl (lv_at hl 2 rfl) ?_
      refine lv_goto (tgt := 75) hx hb dX11_dearest_67 (by decide) ?_
      exact q_iret C hr hlocks hK hP hD hS (Nat.le_of_ble_eq_true rfl) (Nat.le_of_ble_eq_true rfl) dX11_dearest_75 (by cases hB; exact ⟨rfl, rfl⟩)
    · have hB := if_n hB c3
      refine lv_iload_n hx hb dX11_dearest_62 rfl (lv_at hl 1 rfl) ?_
      refine lv_if_ne (tgt := 70) hx hb dX11_dearest_63 (by decide) (fun c4 => ?_) (fun c4 => ?_)
      · have hB := if_n hB c4
        refine lv_aload_n hx hb dX11_dearest_70 rfl (lv_at hl 0 rfl) ?_
        refine lv_iload_n hx hb dX11_dearest_71 rfl (lv_at hl 2 rfl) ?_
        obtain ⟨q_, s5, hc, hB⟩ := bindI_inv hB
        refine q_goiF (va_runV (As := [.int x2]) (rest := []) C (cr_faresOf hc _) (cwV 1 hts gX11_dearest_X11_faresOf rfl rfl rfl (by decide +kernel) ⟨Nat.le_of_ble_eq_true rfl, Nat.le_of_ble_eq_true rfl⟩) (q_preV hK hP (ci := 11) (q0 := 0) rfl rfl rfl (q_preF hN hK hP hD)) rfl rfl hl.1 rfl (lv_room (Nat.le_of_ble_eq_true rfl)) dX11_dearest_72 ⟨Nat.le_of_ble_eq_true rfl, Nat.le_of_ble_eq_true rfl⟩) hD hS hA (fun r6 w1 H locs hw hP hD hS => ?_)
        obtain ⟨hq_, hw⟩ := hw; subst hw; subst hq_
        exact q_iret C hr hlocks hK hP hD hS (Nat.le_of_ble_eq_true rfl) (Nat.le_of_ble_eq_true rfl) dX11_dearest_75 (by cases hB; exact ⟨rfl, rfl⟩)
      · have hB := if_p hB c4
        refine lv_iload_n hx hb dX11_dearest_66 rfl (lv_at hl 2 rfl) ?_
        refine lv_goto (tgt := 75) hx hb dX11_dearest_67 (by decide) ?_
        exact q_iret C hr hlocks hK hP hD hS (Nat.le_of_ble_eq_true rfl) (Nat.le_of_ble_eq_true rfl) dX11_dearest_75 (by cases hB; exact ⟨rfl, rfl⟩)
  · have hB := if_n hB c2
    refine lv_iload_n hx hb dX11_dearest_33 rfl (lv_at hl 2 rfl) ?_
    refine lv_if_lt (tgt := 50) hx hb dX11_dearest_34 (by decide) (fun c7 => ?_) (fun c7 => ?_)
    · have hB := if_p hB c7
      exact br_dearest_50 (hk20) _ _ _ hB p e s0 m below meth c A E H locs ls hP hD hS (lv_sub hl [0, 1, 3] rfl)
    · have hB := if_n hB c7
      refine lv_aload_n hx hb dX11_dearest_37 rfl (lv_at hl 0 rfl) ?_
      refine lv_iload_n hx hb dX11_dearest_38 rfl (lv_at hl 3 rfl) ?_
      obtain ⟨q_, s8, hc, hB⟩ := bindI_inv hB
      refine q_goiF (va_runV (As := [.int x3]) (rest := []) C (cr_faresOf hc _) (cwV 1 hts gX11_dearest_X11_faresOf rfl rfl rfl (by decide +kernel) ⟨Nat.le_of_ble_eq_true rfl, Nat.le_of_ble_eq_true rfl⟩) (q_preV hK hP (ci := 11) (q0 := 0) rfl rfl rfl (q_preF hN hK hP hD)) rfl rfl hl.1 rfl (lv_room (Nat.le_of_ble_eq_true rfl)) dX11_dearest_39 ⟨Nat.le_of_ble_eq_true rfl, Nat.le_of_ble_eq_true rfl⟩) hD hS hA (fun r9 w1 H locs hw hP hD hS => ?_)
      obtain ⟨hq_, hw⟩ := hw; subst hw; subst hq_
      refine lv_aload_n hx hb dX11_dearest_42 rfl (lv_at hl 0 rfl) ?_
      refine lv_iload_n hx hb dX11_dearest_43 rfl (lv_at hl 2 rfl) ?_
      obtain ⟨q_, s10, hc, hB⟩ := bindI_inv hB
      refine q_goiF (va_runV (As := [.int x2]) (rest := [.int r9]) C (cr_faresOf hc _) (cwV 1 hts gX11_dearest_X11_faresOf rfl rfl rfl (by decide +kernel) ⟨Nat.le_of_ble_eq_true rfl, Nat.le_of_ble_eq_true rfl⟩) (q_preV hK hP (ci := 11) (q0 := 0) rfl rfl rfl (q_preF hN hK hP hD)) rfl rfl hl.1 rfl (lv_room (Nat.le_of_ble_eq_true rfl)) dX11_dearest_44 ⟨Nat.le_of_ble_eq_true rfl, Nat.le_of_ble_eq_true rfl⟩) hD hS hA (fun r11 w1 H locs hw hP hD hS => ?_)
      obtain ⟨hq_, hw⟩ := hw; subst hw; subst hq_
      refine lv_icmp_le (tgt := 52) hx hb dX11_dearest_47 (by decide) (fun c12 => ?_) (fun c12 => ?_)
      · have hB := if_p hB c12
        exact br_dearest_52 (hk20) _ _ _ _ hB p e s0 m below meth c A E H locs ls hP hD hS (lv_sub hl [0, 1, 2, 3] rfl)
      · have hB := if_n hB c12
        exact br_dearest_50 (hk20) _ _ _ hB p e s0 m below meth c A E H locs ls hP hD hS (lv_sub hl [0, 1, 3] rfl)
theorem br_dearest_20L {l : Launch} {dC : Nat → ClassId} {dI : Nat → Nat → Nat} {cB cI cJ cZ cS : ClassId} {h : Nat} {a : Nat → Nat} {as : List Value} {r : Int32} {s' : RS} : ∀ (n : Nat) (s : RS) (x1 : Int32) (x2 : Int32) (x3 : Int32), r_dearest_20L n s x1 x2 x3 = some (r, s') → BlkI l yX11_dearest wsX11_dearest ({ frames := 3, cells := 0, slots := 0, locals := 74 }) cX11_dearest 4 (some .int) (dC, dI) (tysA cB cI cJ cZ cS) as 20 (mwS cB cI cJ cZ h a s) [(0, .ref h), (1, .int x1), (2, .int x2), (3, .int x3)] [] (fun x u => x = r ∧ u = (mwS cB cI cJ cZ h a s')) := by
  intro n
  induction n with
  | zero => intro s x1 x2 x3 hB; exact none_ne hB
  | succ n ih => intro s x1 x2 x3 hB; exact br_dearest_20 ih _ _ _ _ hB
set_option maxHeartbeats 4000000 in
set_option maxRecDepth 100000 in
theorem br_dearest {l : Launch} {dC : Nat → ClassId} {dI : Nat → Nat → Nat} {cB cI cJ cZ cS : ClassId} {h : Nat} {a : Nat → Nat} {as : List Value} {r : Int32} {s' : RS} (s : RS) (x1 : Int32) (hB : r_dearest s x1 = some (r, s')) : BlkI l yX11_dearest wsX11_dearest ({ frames := 3, cells := 0, slots := 0, locals := 74 }) cX11_dearest 4 (some .int) (dC, dI) (tysA cB cI cJ cZ cS) as 0 (mwS cB cI cJ cZ h a s) [(0, .ref h), (1, .int x1)] [] (fun x u => x = r ∧ u = (mwS cB cI cJ cZ h a s')) := by
  intro p e s0 m below meth c A E H locs ls hP hD hS hl
  obtain ⟨C, hr, hlocks, hA, hK, hN⟩ := id E
  obtain ⟨hx, hb, hml, hown, hts⟩ := id C
  unfold r_dearest at hB
  refine lv_iload_n hx hb dX11_dearest_0 rfl (lv_at hl 1 rfl) ?_
  refine lv_iconst (v := 0) hx hb dX11_dearest_1 (by decide) ?_
  refine lv_iconst (v := 1) hx hb dX11_dearest_2 (by decide) ?_
  obtain ⟨q_, hc, hB⟩ := bindP_inv hB
  refine q_goi0 (va_runS (As := [.int x1, .int 0, .int 1]) (rest := []) C (cr_in hc _) (va_cwS 3 hts gX11_dearest_X11_in rfl rfl rfl (by decide +kernel) ⟨Nat.le_of_ble_eq_true rfl, Nat.le_of_ble_eq_true rfl⟩) (q_pre0 hN hK) rfl rfl hl.1 rfl (lv_room (Nat.le_of_ble_eq_true rfl)) dX11_dearest_3 ⟨Nat.le_of_ble_eq_true rfl, Nat.le_of_ble_eq_true rfl⟩) hP hD hS hA (fun r1 w1 H locs hw hP hS => ?_)
  subst hw
  refine lv_if_ne (tgt := 11) hx hb dX11_dearest_6 (by decide) (fun c2 => ?_) (fun c2 => ?_)
  · have hB := if_n hB c2
    refine lv_aload_n hx hb dX11_dearest_11 rfl (lv_at hl 0 rfl) ?_
    obtain ⟨s3, hc, hB⟩ := bindP_inv hB
    refine q_govF (va_runV (As := []) (rest := []) C (cr_copies hc _) (cwV 0 hts gX11_dearest_X11_copies rfl rfl rfl (by decide +kernel) ⟨Nat.le_of_ble_eq_true rfl, Nat.le_of_ble_eq_true rfl⟩) (q_preV hK hP (ci := 11) (q0 := 0) rfl rfl rfl (q_preF hN hK hP hD)) rfl rfl hl.1 rfl (lv_room (Nat.le_of_ble_eq_true rfl)) dX11_dearest_12 ⟨Nat.le_of_ble_eq_true rfl, Nat.le_of_ble_eq_true rfl⟩) hD hS hA (fun w1 H locs hw hP hD hS => ?_)
    subst hw
    refine lv_bipush (v := (-2)) hx hb dX11_dearest_15 (by decide) ?_
    refine lv_istore_n (lv' := [(2, .int (-2)), (0, .ref h), (1, .int x1)]) hx hb dX11_dearest_17 rfl hl (by decide) rfl (fun ls hl => ?_)
    refine lv_iconst (v := 0) hx hb dX11_dearest_18 (by decide) ?_
    refine lv_istore_n (lv' := [(3, .int 0), (2, .int (-2)), (0, .ref h), (1, .int x1)]) hx hb dX11_dearest_19 rfl hl (by decide) rfl (fun ls hl => ?_)
    exact br_dearest_20L fu _ _ _ _ hB p e s0 m below meth c A E H locs ls hP hD hS (lv_sub hl [2, 3, 1, 0] rfl)
  · have hB := if_p hB c2
    refine lv_iconst (v := (-1)) hx hb dX11_dearest_9 (by decide) ?_
    exact q_iret C hr hlocks hK hP hD hS (Nat.le_of_ble_eq_true rfl) (Nat.le_of_ble_eq_true rfl) dX11_dearest_10 (by cases hB; exact ⟨rfl, rfl⟩)
theorem cr_dearest {l : Launch} {dC : Nat → ClassId} {dI : Nat → Nat → Nat} {cB cI cJ cZ cS : ClassId} {h : Nat} {a : Nat → Nat} {r : Int32} {s' : RS} {s : RS} {x1 : Int32} (hB : r_dearest s x1 = some (r, s')) : CI l yX11_dearest wsX11_dearest ({ frames := 3, cells := 0, slots := 0, locals := 74 }) (dC, dI) (tysA cB cI cJ cZ cS) (mwS cB cI cJ cZ h a s) [.ref h, .int x1] (fun x u => x = r ∧ u = (mwS cB cI cJ cZ h a s')) :=
  CI_of (cc := cX11_dearest) (maxL := 4) (ret := (some .int)) (by decide) rfl (Nat.le_of_ble_eq_true rfl) (br_dearest _ _ hB)
