theorem ggX4_readTape_X5_clear : GoodIn wsX4_readTape wsX5_clear := gi_sub (fun w h => List.mem_cons_of_mem _ (List.mem_append_left _ (List.mem_append_left _ (List.mem_append_left _ (List.mem_append_left _ (List.mem_append_left _ (List.mem_append_right _ (List.mem_append_left _ h)))))))) gd_wsX5_clear
set_option maxRecDepth 20000 in
theorem gX4_readTape_X5_clear_n35 : GoodIn wsX4_readTape (wsX5_clear) := ggX4_readTape_X5_clear
theorem ggX4_readTape_X9_split : GoodIn wsX4_readTape wsX9_split := gi_sub (fun w h => List.mem_cons_of_mem _ (List.mem_append_left _ (List.mem_append_left _ (List.mem_append_left _ (List.mem_append_left _ (List.mem_append_left _ (List.mem_append_right _ (List.mem_append_right _ (List.mem_append_left _ h))))))))) gd_wsX9_split
set_option maxRecDepth 20000 in
theorem gX4_readTape_X9_split_n50 : GoodIn wsX4_readTape (wsX9_split) := ggX4_readTape_X9_split
theorem ggX4_readTape_X4_isAt : GoodIn wsX4_readTape wsX4_isAt := gi_sub (fun w h => List.mem_cons_of_mem _ (List.mem_append_left _ (List.mem_append_left _ (List.mem_append_left _ (List.mem_append_left _ (List.mem_append_left _ (List.mem_append_right _ (List.mem_append_right _ (List.mem_append_right _ (List.mem_append_left _ h)))))))))) gd_wsX4_isAt
set_option maxRecDepth 20000 in
theorem gX4_readTape_X4_isAt : GoodIn wsX4_readTape (wsV RX4 53 RX4 yX4_isAt wsX4_isAt) := goodIn_app (goodIn_r _ [14, 15, 16, 17] (by decide +kernel) (by decide +kernel)) ggX4_readTape_X4_isAt
theorem ggX4_readTape_X4_readTell : GoodIn wsX4_readTape wsX4_readTell := gi_sub (fun w h => List.mem_cons_of_mem _ (List.mem_append_left _ (List.mem_append_left _ (List.mem_append_left _ (List.mem_append_left _ (List.mem_append_left _ (List.mem_append_right _ (List.mem_append_right _ (List.mem_append_right _ (List.mem_append_right _ (List.mem_append_left _ h))))))))))) gd_wsX4_readTell
set_option maxRecDepth 20000 in
theorem gX4_readTape_X4_readTell : GoodIn wsX4_readTape (wsV RX4 57 RX4 yX4_readTell wsX4_readTell) := goodIn_app (goodIn_r _ [18, 19, 20, 17] (by decide +kernel) (by decide +kernel)) ggX4_readTape_X4_readTell
theorem ggX4_readTape_X5_addUp : GoodIn wsX4_readTape wsX5_addUp := gi_sub (fun w h => List.mem_cons_of_mem _ (List.mem_append_left _ (List.mem_append_left _ (List.mem_append_left _ (List.mem_append_left _ (List.mem_append_left _ (List.mem_append_right _ (List.mem_append_right _ (List.mem_append_right _ (List.mem_append_right _ (List.mem_append_right _ h))))))))))) gd_wsX5_addUp
set_option maxRecDepth 20000 in
theorem gX4_readTape_X5_addUp_n60 : GoodIn wsX4_readTape (wsX5_addUp) := ggX4_readTape_X5_addUp
theorem dX4_readTape_0 : decode cX4_readTape 0 = .ok (.aload_n 0, 1) := dc1_42 (by decide +kernel)
theorem dX4_readTape_1 : decode cX4_readTape 1 = .ok (.getfield 12, 3) := dcw_180 (by decide +kernel)
theorem dX4_readTape_4 : decode cX4_readTape 4 = .ok (.invokevirtual 35, 3) := dcw_182 (by decide +kernel)
theorem dX4_readTape_7 : decode cX4_readTape 7 = .ok (.aload_n 0, 1) := dc1_42 (by decide +kernel)
theorem dX4_readTape_8 : decode cX4_readTape 8 = .ok (.iconst 0, 1) := dc1_3 (by decide +kernel)
theorem dX4_readTape_9 : decode cX4_readTape 9 = .ok (.putfield 38, 3) := dcw_181 (by decide +kernel)
theorem dX4_readTape_12 : decode cX4_readTape 12 = .ok (.aload_n 0, 1) := dc1_42 (by decide +kernel)
theorem dX4_readTape_13 : decode cX4_readTape 13 = .ok (.iconst 0, 1) := dc1_3 (by decide +kernel)
theorem dX4_readTape_14 : decode cX4_readTape 14 = .ok (.putfield 41, 3) := dcw_181 (by decide +kernel)
theorem dX4_readTape_17 : decode cX4_readTape 17 = .ok (.aload_n 0, 1) := dc1_42 (by decide +kernel)
theorem dX4_readTape_18 : decode cX4_readTape 18 = .ok (.iconst (-1), 1) := dc1_2 (by decide +kernel)
theorem dX4_readTape_19 : decode cX4_readTape 19 = .ok (.putfield 22, 3) := dcw_181 (by decide +kernel)
theorem dX4_readTape_22 : decode cX4_readTape 22 = .ok (.aload_n 0, 1) := dc1_42 (by decide +kernel)
theorem dX4_readTape_23 : decode cX4_readTape 23 = .ok (.iconst 0, 1) := dc1_3 (by decide +kernel)
theorem dX4_readTape_24 : decode cX4_readTape 24 = .ok (.putfield 44, 3) := dcw_181 (by decide +kernel)
theorem dX4_readTape_27 : decode cX4_readTape 27 = .ok (.aload_n 0, 1) := dc1_42 (by decide +kernel)
theorem dX4_readTape_28 : decode cX4_readTape 28 = .ok (.iconst (-1), 1) := dc1_2 (by decide +kernel)
theorem dX4_readTape_29 : decode cX4_readTape 29 = .ok (.putfield 47, 3) := dcw_181 (by decide +kernel)
theorem dX4_readTape_32 : decode cX4_readTape 32 = .ok (.aload_n 0, 1) := dc1_42 (by decide +kernel)
theorem dX4_readTape_33 : decode cX4_readTape 33 = .ok (.getfield 31, 3) := dcw_180 (by decide +kernel)
theorem dX4_readTape_36 : decode cX4_readTape 36 = .ok (.invokevirtual 50, 3) := dcw_182 (by decide +kernel)
theorem dX4_readTape_39 : decode cX4_readTape 39 = .ok (.iconst 0, 1) := dc1_3 (by decide +kernel)
theorem dX4_readTape_40 : decode cX4_readTape 40 = .ok (.istore_n 1, 1) := dc1_60 (by decide +kernel)
theorem dX4_readTape_41 : decode cX4_readTape 41 = .ok (.iload_n 1, 1) := dc1_27 (by decide +kernel)
theorem dX4_readTape_42 : decode cX4_readTape 42 = .ok (.sipush 400, 3) := dcs_17 (n := 400) (by decide +kernel)
theorem dX4_readTape_45 : decode cX4_readTape 45 = .ok (.if_icmp .gt 30, 3) := dcs_163 (n := 30) (by decide +kernel)
theorem dX4_readTape_48 : decode cX4_readTape 48 = .ok (.aload_n 0, 1) := dc1_42 (by decide +kernel)
theorem dX4_readTape_49 : decode cX4_readTape 49 = .ok (.getfield 41, 3) := dcw_180 (by decide +kernel)
theorem dX4_readTape_52 : decode cX4_readTape 52 = .ok (.ifCond .ne 23, 3) := dcs_154 (n := 23) (by decide +kernel)
theorem dX4_readTape_55 : decode cX4_readTape 55 = .ok (.aload_n 0, 1) := dc1_42 (by decide +kernel)
theorem dX4_readTape_56 : decode cX4_readTape 56 = .ok (.sipush 302, 3) := dcs_17 (n := 302) (by decide +kernel)
theorem dX4_readTape_59 : decode cX4_readTape 59 = .ok (.invokevirtual 53, 3) := dcw_182 (by decide +kernel)
theorem dX4_readTape_62 : decode cX4_readTape 62 = .ok (.ifCond .ne 13, 3) := dcs_154 (n := 13) (by decide +kernel)
theorem dX4_readTape_65 : decode cX4_readTape 65 = .ok (.aload_n 0, 1) := dc1_42 (by decide +kernel)
theorem dX4_readTape_66 : decode cX4_readTape 66 = .ok (.invokevirtual 57, 3) := dcw_182 (by decide +kernel)
theorem dX4_readTape_69 : decode cX4_readTape 69 = .ok (.iinc 1 1, 3) := dc_iinc (m := 1) (by decide +kernel)
theorem dX4_readTape_72 : decode cX4_readTape 72 = .ok (.goto (-31), 3) := dcs_167 (n := 65505) (by decide +kernel)
theorem dX4_readTape_75 : decode cX4_readTape 75 = .ok (.aload_n 0, 1) := dc1_42 (by decide +kernel)
theorem dX4_readTape_76 : decode cX4_readTape 76 = .ok (.getfield 41, 3) := dcw_180 (by decide +kernel)
theorem dX4_readTape_79 : decode cX4_readTape 79 = .ok (.ifCond .ne 19, 3) := dcs_154 (n := 19) (by decide +kernel)
theorem dX4_readTape_82 : decode cX4_readTape 82 = .ok (.aload_n 0, 1) := dc1_42 (by decide +kernel)
theorem dX4_readTape_83 : decode cX4_readTape 83 = .ok (.aload_n 0, 1) := dc1_42 (by decide +kernel)
theorem dX4_readTape_84 : decode cX4_readTape 84 = .ok (.getfield 44, 3) := dcw_180 (by decide +kernel)
theorem dX4_readTape_87 : decode cX4_readTape 87 = .ok (.putfield 41, 3) := dcw_181 (by decide +kernel)
theorem dX4_readTape_90 : decode cX4_readTape 90 = .ok (.aload_n 0, 1) := dc1_42 (by decide +kernel)
theorem dX4_readTape_91 : decode cX4_readTape 91 = .ok (.aload_n 0, 1) := dc1_42 (by decide +kernel)
theorem dX4_readTape_92 : decode cX4_readTape 92 = .ok (.getfield 47, 3) := dcw_180 (by decide +kernel)
theorem dX4_readTape_95 : decode cX4_readTape 95 = .ok (.putfield 22, 3) := dcw_181 (by decide +kernel)
theorem dX4_readTape_98 : decode cX4_readTape 98 = .ok (.aload_n 0, 1) := dc1_42 (by decide +kernel)
theorem dX4_readTape_99 : decode cX4_readTape 99 = .ok (.getfield 41, 3) := dcw_180 (by decide +kernel)
theorem dX4_readTape_102 : decode cX4_readTape 102 = .ok (.ifCond .ne 10, 3) := dcs_154 (n := 10) (by decide +kernel)
theorem dX4_readTape_105 : decode cX4_readTape 105 = .ok (.aload_n 0, 1) := dc1_42 (by decide +kernel)
theorem dX4_readTape_106 : decode cX4_readTape 106 = .ok (.getfield 12, 3) := dcw_180 (by decide +kernel)
theorem dX4_readTape_109 : decode cX4_readTape 109 = .ok (.invokevirtual 60, 3) := dcw_182 (by decide +kernel)
theorem dX4_readTape_112 : decode cX4_readTape 112 = .ok (.aload_n 0, 1) := dc1_42 (by decide +kernel)
theorem dX4_readTape_113 : decode cX4_readTape 113 = .ok (.getfield 41, 3) := dcw_180 (by decide +kernel)
theorem dX4_readTape_116 : decode cX4_readTape 116 = .ok (.ireturn, 1) := dc1_172 (by decide +kernel)
theorem ggX4_readTell_X4_readWave : GoodIn wsX4_readTell wsX4_readWave := gi_sub (fun w h => List.mem_cons_of_mem _ (List.mem_append_left _ (List.mem_append_left _ (List.mem_append_left _ (List.mem_append_left _ (List.mem_append_right _ (List.mem_append_left _ h))))))) gd_wsX4_readWave
set_option maxRecDepth 20000 in
theorem gX4_readTell_X4_readWave : GoodIn wsX4_readTell (wsV RX4 84 RX4 yX4_readWave wsX4_readWave) := goodIn_app (goodIn_r _ [4, 5, 6, 7] (by decide +kernel) (by decide +kernel)) ggX4_readTell_X4_readWave
theorem ggX4_readTell_X4_readParty : GoodIn wsX4_readTell wsX4_readParty := gi_sub (fun w h => List.mem_cons_of_mem _ (List.mem_append_left _ (List.mem_append_left _ (List.mem_append_left _ (List.mem_append_left _ (List.mem_append_right _ (List.mem_append_right _ (List.mem_append_left _ h)))))))) gd_wsX4_readParty
set_option maxRecDepth 20000 in
theorem gX4_readTell_X4_readParty : GoodIn wsX4_readTell (wsV RX4 87 RX4 yX4_readParty wsX4_readParty) := goodIn_app (goodIn_r _ [17, 18, 19, 7] (by decide +kernel) (by decide +kernel)) ggX4_readTell_X4_readParty
theorem ggX4_readTell_X4_take : GoodIn wsX4_readTell wsX4_take := gi_sub (fun w h => List.mem_cons_of_mem _ (List.mem_append_left _ (List.mem_append_left _ (List.mem_append_left _ (List.mem_append_left _ (List.mem_append_right _ (List.mem_append_right _ (List.mem_append_right _ (List.mem_append_left _ h))))))))) gd_wsX4_take
set_option maxRecDepth 20000 in
theorem gX4_readTell_X4_take : GoodIn wsX4_readTell (wsV RX4 81 RX4 yX4_take wsX4_take) := goodIn_app (goodIn_r _ [11, 12, 13, 7] (by decide +kernel) (by decide +kernel)) ggX4_readTell_X4_take
theorem ggX4_readTell_X4_takeInt : GoodIn wsX4_readTell wsX4_takeInt := gi_sub (fun w h => List.mem_cons_of_mem _ (List.mem_append_left _ (List.mem_append_left _ (List.mem_append_left _ (List.mem_append_left _ (List.mem_append_right _ (List.mem_append_right _ (List.mem_append_right _ (List.mem_append_right _ (List.mem_append_left _ h)))))))))) gd_wsX4_takeInt
set_option maxRecDepth 20000 in
theorem gX4_readTell_X4_takeInt : GoodIn wsX4_readTell (wsV RX4 90 RX4 yX4_takeInt wsX4_takeInt) := goodIn_app (goodIn_r _ [14, 15, 16, 7] (by decide +kernel) (by decide +kernel)) ggX4_readTell_X4_takeInt
theorem ggX4_readTell_X4_readLaw : GoodIn wsX4_readTell wsX4_readLaw := gi_sub (fun w h => List.mem_cons_of_mem _ (List.mem_append_left _ (List.mem_append_left _ (List.mem_append_left _ (List.mem_append_left _ (List.mem_append_right _ (List.mem_append_right _ (List.mem_append_right _ (List.mem_append_right _ (List.mem_append_right _ (List.mem_append_left _ h))))))))))) gd_wsX4_readLaw
set_option maxRecDepth 20000 in
theorem gX4_readTell_X4_readLaw : GoodIn wsX4_readTell (wsV RX4 97 RX4 yX4_readLaw wsX4_readLaw) := goodIn_app (goodIn_r _ [20, 21, 22, 7] (by decide +kernel) (by decide +kernel)) ggX4_readTell_X4_readLaw
theorem ggX4_readTell_X4_fail : GoodIn wsX4_readTell wsX4_fail := gi_sub (fun w h => List.mem_cons_of_mem _ (List.mem_append_left _ (List.mem_append_left _ (List.mem_append_left _ (List.mem_append_left _ (List.mem_append_right _ (List.mem_append_right _ (List.mem_append_right _ (List.mem_append_right _ (List.mem_append_right _ (List.mem_append_right _ h))))))))))) gd_wsX4_fail
set_option maxRecDepth 20000 in
theorem gX4_readTell_X4_fail : GoodIn wsX4_readTell (wsV RX4 70 RX4 yX4_fail wsX4_fail) := goodIn_app (goodIn_r _ [8, 9, 10, 7] (by decide +kernel) (by decide +kernel)) ggX4_readTell_X4_fail
theorem dX4_readTell_0 : decode cX4_readTell 0 = .ok (.aload_n 0, 1) := dc1_42 (by decide +kernel)
theorem dX4_readTell_1 : decode cX4_readTell 1 = .ok (.getfield 31, 3) := dcw_180 (by decide +kernel)
theorem dX4_readTell_4 : decode cX4_readTell 4 = .ok (.getfield 63, 3) := dcw_180 (by decide +kernel)
theorem dX4_readTell_7 : decode cX4_readTell 7 = .ok (.aload_n 0, 1) := dc1_42 (by decide +kernel)
theorem dX4_readTell_8 : decode cX4_readTell 8 = .ok (.getfield 38, 3) := dcw_180 (by decide +kernel)
theorem dX4_readTell_11 : decode cX4_readTell 11 = .ok (.iaload, 1) := dc1_46 (by decide +kernel)
theorem dX4_readTell_12 : decode cX4_readTell 12 = .ok (.istore_n 1, 1) := dc1_60 (by decide +kernel)
theorem dX4_readTell_13 : decode cX4_readTell 13 = .ok (.iload_n 1, 1) := dc1_27 (by decide +kernel)
theorem dX4_readTell_14 : decode cX4_readTell 14 = .ok (.sipush 258, 3) := dcs_17 (n := 258) (by decide +kernel)
theorem dX4_readTell_17 : decode cX4_readTell 17 = .ok (.isub, 1) := dc1_100 (by decide +kernel)
theorem dX4_readTell_18 : decode cX4_readTell 18 = .ok (.istore_n 2, 1) := dc1_61 (by decide +kernel)
theorem dX4_readTell_19 : decode cX4_readTell 19 = .ok (.iload_n 1, 1) := dc1_27 (by decide +kernel)
theorem dX4_readTell_20 : decode cX4_readTell 20 = .ok (.sipush 256, 3) := dcs_17 (n := 256) (by decide +kernel)
theorem dX4_readTell_23 : decode cX4_readTell 23 = .ok (.if_icmp .ne 10, 3) := dcs_160 (n := 10) (by decide +kernel)
theorem dX4_readTell_26 : decode cX4_readTell 26 = .ok (.aload_n 0, 1) := dc1_42 (by decide +kernel)
theorem dX4_readTell_27 : decode cX4_readTell 27 = .ok (.invokevirtual 84, 3) := dcw_182 (by decide +kernel)
theorem dX4_readTell_30 : decode cX4_readTell 30 = .ok (.goto 81, 3) := dcs_167 (n := 81) (by decide +kernel)
theorem dX4_readTell_33 : decode cX4_readTell 33 = .ok (.iload_n 1, 1) := dc1_27 (by decide +kernel)
theorem dX4_readTell_34 : decode cX4_readTell 34 = .ok (.sipush 257, 3) := dcs_17 (n := 257) (by decide +kernel)
theorem dX4_readTell_37 : decode cX4_readTell 37 = .ok (.if_icmp .ne 10, 3) := dcs_160 (n := 10) (by decide +kernel)
theorem dX4_readTell_40 : decode cX4_readTell 40 = .ok (.aload_n 0, 1) := dc1_42 (by decide +kernel)
theorem dX4_readTell_41 : decode cX4_readTell 41 = .ok (.invokevirtual 87, 3) := dcw_182 (by decide +kernel)
theorem dX4_readTell_44 : decode cX4_readTell 44 = .ok (.goto 67, 3) := dcs_167 (n := 67) (by decide +kernel)
theorem dX4_readTell_47 : decode cX4_readTell 47 = .ok (.iload_n 1, 1) := dc1_27 (by decide +kernel)
theorem dX4_readTell_48 : decode cX4_readTell 48 = .ok (.sipush 262, 3) := dcs_17 (n := 262) (by decide +kernel)
theorem dX4_readTell_51 : decode cX4_readTell 51 = .ok (.if_icmp .ne 33, 3) := dcs_160 (n := 33) (by decide +kernel)
theorem dX4_readTell_54 : decode cX4_readTell 54 = .ok (.aload_n 0, 1) := dc1_42 (by decide +kernel)
theorem dX4_readTell_55 : decode cX4_readTell 55 = .ok (.sipush 262, 3) := dcs_17 (n := 262) (by decide +kernel)
theorem dX4_readTell_58 : decode cX4_readTell 58 = .ok (.invokevirtual 81, 3) := dcw_182 (by decide +kernel)
theorem dX4_readTell_61 : decode cX4_readTell 61 = .ok (.aload_n 0, 1) := dc1_42 (by decide +kernel)
theorem dX4_readTell_62 : decode cX4_readTell 62 = .ok (.getfield 12, 3) := dcw_180 (by decide +kernel)
theorem dX4_readTell_65 : decode cX4_readTell 65 = .ok (.aload_n 0, 1) := dc1_42 (by decide +kernel)
theorem dX4_readTell_66 : decode cX4_readTell 66 = .ok (.sipush 9999, 3) := dcs_17 (n := 9999) (by decide +kernel)
theorem dX4_readTell_69 : decode cX4_readTell 69 = .ok (.invokevirtual 90, 3) := dcw_182 (by decide +kernel)
theorem dX4_readTell_72 : decode cX4_readTell 72 = .ok (.putfield 94, 3) := dcw_181 (by decide +kernel)
theorem dX4_readTell_75 : decode cX4_readTell 75 = .ok (.aload_n 0, 1) := dc1_42 (by decide +kernel)
theorem dX4_readTell_76 : decode cX4_readTell 76 = .ok (.bipush 59, 2) := dcb_16 (n := 59) (by decide +kernel)
theorem dX4_readTell_78 : decode cX4_readTell 78 = .ok (.invokevirtual 81, 3) := dcw_182 (by decide +kernel)
theorem dX4_readTell_81 : decode cX4_readTell 81 = .ok (.goto 30, 3) := dcs_167 (n := 30) (by decide +kernel)
theorem dX4_readTell_84 : decode cX4_readTell 84 = .ok (.iload_n 2, 1) := dc1_28 (by decide +kernel)
theorem dX4_readTell_85 : decode cX4_readTell 85 = .ok (.ifCond .lt 21, 3) := dcs_155 (n := 21) (by decide +kernel)
theorem dX4_readTell_88 : decode cX4_readTell 88 = .ok (.iload_n 2, 1) := dc1_28 (by decide +kernel)
theorem dX4_readTell_89 : decode cX4_readTell 89 = .ok (.iconst 4, 1) := dc1_7 (by decide +kernel)
theorem dX4_readTell_90 : decode cX4_readTell 90 = .ok (.if_icmp .ge 16, 3) := dcs_162 (n := 16) (by decide +kernel)
theorem dX4_readTell_93 : decode cX4_readTell 93 = .ok (.aload_n 0, 1) := dc1_42 (by decide +kernel)
theorem dX4_readTell_94 : decode cX4_readTell 94 = .ok (.iload_n 1, 1) := dc1_27 (by decide +kernel)
theorem dX4_readTell_95 : decode cX4_readTell 95 = .ok (.invokevirtual 81, 3) := dcw_182 (by decide +kernel)
theorem dX4_readTell_98 : decode cX4_readTell 98 = .ok (.aload_n 0, 1) := dc1_42 (by decide +kernel)
theorem dX4_readTell_99 : decode cX4_readTell 99 = .ok (.iload_n 2, 1) := dc1_28 (by decide +kernel)
theorem dX4_readTell_100 : decode cX4_readTell 100 = .ok (.invokevirtual 97, 3) := dcw_182 (by decide +kernel)
theorem dX4_readTell_103 : decode cX4_readTell 103 = .ok (.goto 8, 3) := dcs_167 (n := 8) (by decide +kernel)
theorem dX4_readTell_106 : decode cX4_readTell 106 = .ok (.aload_n 0, 1) := dc1_42 (by decide +kernel)
theorem dX4_readTell_107 : decode cX4_readTell 107 = .ok (.iconst 1, 1) := dc1_4 (by decide +kernel)
theorem dX4_readTell_108 : decode cX4_readTell 108 = .ok (.invokevirtual 70, 3) := dcw_182 (by decide +kernel)
theorem dX4_readTell_111 : decode cX4_readTell 111 = .ok (.return_, 1) := dc1_177 (by decide +kernel)
theorem ggX4_readLaw_X4_take : GoodIn wsX4_readLaw wsX4_take := gi_sub (fun w h => List.mem_cons_of_mem _ (List.mem_append_left _ (List.mem_append_left _ (List.mem_append_left _ (List.mem_append_left _ (List.mem_append_right _ (List.mem_append_left _ h))))))) gd_wsX4_take
set_option maxRecDepth 20000 in
theorem gX4_readLaw_X4_take : GoodIn wsX4_readLaw (wsV RX4 81 RX4 yX4_take wsX4_take) := goodIn_app (goodIn_r _ [2, 3, 4, 5] (by decide +kernel) (by decide +kernel)) ggX4_readLaw_X4_take
theorem ggX4_readLaw_X1_begin : GoodIn wsX4_readLaw wsX1_begin := gi_sub (fun w h => List.mem_cons_of_mem _ (List.mem_append_left _ (List.mem_append_left _ (List.mem_append_left _ (List.mem_append_left _ (List.mem_append_right _ (List.mem_append_right _ (List.mem_append_left _ h)))))))) gd_wsX1_begin
set_option maxRecDepth 20000 in
theorem gX4_readLaw_X1_begin_n123 : GoodIn wsX4_readLaw (wsX1_begin) := ggX4_readLaw_X1_begin
theorem ggX4_readLaw_X4_isAt : GoodIn wsX4_readLaw wsX4_isAt := gi_sub (fun w h => List.mem_cons_of_mem _ (List.mem_append_left _ (List.mem_append_left _ (List.mem_append_left _ (List.mem_append_left _ (List.mem_append_right _ (List.mem_append_right _ (List.mem_append_right _ (List.mem_append_left _ h))))))))) gd_wsX4_isAt
set_option maxRecDepth 20000 in
theorem gX4_readLaw_X4_isAt : GoodIn wsX4_readLaw (wsV RX4 53 RX4 yX4_isAt wsX4_isAt) := goodIn_app (goodIn_r _ [6, 7, 8, 5] (by decide +kernel) (by decide +kernel)) ggX4_readLaw_X4_isAt
theorem ggX4_readLaw_X4_fail : GoodIn wsX4_readLaw wsX4_fail := gi_sub (fun w h => List.mem_cons_of_mem _ (List.mem_append_left _ (List.mem_append_left _ (List.mem_append_left _ (List.mem_append_left _ (List.mem_append_right _ (List.mem_append_right _ (List.mem_append_right _ (List.mem_append_right _ (List.mem_append_left _ h)))))))))) gd_wsX4_fail
set_option maxRecDepth 20000 in
theorem gX4_readLaw_X4_fail : GoodIn wsX4_readLaw (wsV RX4 70 RX4 yX4_fail wsX4_fail) := goodIn_app (goodIn_r _ [9, 10, 11, 5] (by decide +kernel) (by decide +kernel)) ggX4_readLaw_X4_fail
theorem ggX4_readLaw_X4_readPart : GoodIn wsX4_readLaw wsX4_readPart := gi_sub (fun w h => List.mem_cons_of_mem _ (List.mem_append_left _ (List.mem_append_left _ (List.mem_append_left _ (List.mem_append_left _ (List.mem_append_right _ (List.mem_append_right _ (List.mem_append_right _ (List.mem_append_right _ (List.mem_append_right _ h)))))))))) gd_wsX4_readPart
set_option maxRecDepth 20000 in
theorem gX4_readLaw_X4_readPart : GoodIn wsX4_readLaw (wsV RX4 128 RX4 yX4_readPart wsX4_readPart) := goodIn_app (goodIn_r _ [15, 16, 17, 5] (by decide +kernel) (by decide +kernel)) ggX4_readLaw_X4_readPart
theorem dX4_readLaw_0 : decode cX4_readLaw 0 = .ok (.aload_n 0, 1) := dc1_42 (by decide +kernel)
theorem dX4_readLaw_1 : decode cX4_readLaw 1 = .ok (.bipush 61, 2) := dcb_16 (n := 61) (by decide +kernel)
theorem dX4_readLaw_3 : decode cX4_readLaw 3 = .ok (.invokevirtual 81, 3) := dcw_182 (by decide +kernel)
theorem dX4_readLaw_6 : decode cX4_readLaw 6 = .ok (.aload_n 0, 1) := dc1_42 (by decide +kernel)
theorem dX4_readLaw_7 : decode cX4_readLaw 7 = .ok (.getfield 12, 3) := dcw_180 (by decide +kernel)
theorem dX4_readLaw_10 : decode cX4_readLaw 10 = .ok (.getfield 119, 3) := dcw_180 (by decide +kernel)
theorem dX4_readLaw_13 : decode cX4_readLaw 13 = .ok (.iload_n 1, 1) := dc1_27 (by decide +kernel)
theorem dX4_readLaw_14 : decode cX4_readLaw 14 = .ok (.invokevirtual 123, 3) := dcw_182 (by decide +kernel)
theorem dX4_readLaw_17 : decode cX4_readLaw 17 = .ok (.iconst 0, 1) := dc1_3 (by decide +kernel)
theorem dX4_readLaw_18 : decode cX4_readLaw 18 = .ok (.istore_n 2, 1) := dc1_61 (by decide +kernel)
theorem dX4_readLaw_19 : decode cX4_readLaw 19 = .ok (.iload_n 2, 1) := dc1_28 (by decide +kernel)
theorem dX4_readLaw_20 : decode cX4_readLaw 20 = .ok (.iconst 4, 1) := dc1_7 (by decide +kernel)
theorem dX4_readLaw_21 : decode cX4_readLaw 21 = .ok (.if_icmp .gt 56, 3) := dcs_163 (n := 56) (by decide +kernel)
theorem dX4_readLaw_24 : decode cX4_readLaw 24 = .ok (.aload_n 0, 1) := dc1_42 (by decide +kernel)
theorem dX4_readLaw_25 : decode cX4_readLaw 25 = .ok (.sipush 263, 3) := dcs_17 (n := 263) (by decide +kernel)
theorem dX4_readLaw_28 : decode cX4_readLaw 28 = .ok (.invokevirtual 53, 3) := dcw_182 (by decide +kernel)
theorem dX4_readLaw_31 : decode cX4_readLaw 31 = .ok (.ifCond .eq 46, 3) := dcs_153 (n := 46) (by decide +kernel)
theorem dX4_readLaw_34 : decode cX4_readLaw 34 = .ok (.iload_n 2, 1) := dc1_28 (by decide +kernel)
theorem dX4_readLaw_35 : decode cX4_readLaw 35 = .ok (.iconst 4, 1) := dc1_7 (by decide +kernel)
theorem dX4_readLaw_36 : decode cX4_readLaw 36 = .ok (.if_icmp .ne 8, 3) := dcs_160 (n := 8) (by decide +kernel)
theorem dX4_readLaw_39 : decode cX4_readLaw 39 = .ok (.aload_n 0, 1) := dc1_42 (by decide +kernel)
theorem dX4_readLaw_40 : decode cX4_readLaw 40 = .ok (.iconst 2, 1) := dc1_5 (by decide +kernel)
theorem dX4_readLaw_41 : decode cX4_readLaw 41 = .ok (.invokevirtual 70, 3) := dcw_182 (by decide +kernel)
theorem dX4_readLaw_44 : decode cX4_readLaw 44 = .ok (.aload_n 0, 1) := dc1_42 (by decide +kernel)
theorem dX4_readLaw_45 : decode cX4_readLaw 45 = .ok (.sipush 263, 3) := dcs_17 (n := 263) (by decide +kernel)
theorem dX4_readLaw_48 : decode cX4_readLaw 48 = .ok (.invokevirtual 81, 3) := dcw_182 (by decide +kernel)
theorem dX4_readLaw_51 : decode cX4_readLaw 51 = .ok (.aload_n 0, 1) := dc1_42 (by decide +kernel)
theorem dX4_readLaw_52 : decode cX4_readLaw 52 = .ok (.bipush 60, 2) := dcb_16 (n := 60) (by decide +kernel)
theorem dX4_readLaw_54 : decode cX4_readLaw 54 = .ok (.invokevirtual 128, 3) := dcw_182 (by decide +kernel)
theorem dX4_readLaw_57 : decode cX4_readLaw 57 = .ok (.aload_n 0, 1) := dc1_42 (by decide +kernel)
theorem dX4_readLaw_58 : decode cX4_readLaw 58 = .ok (.sipush 264, 3) := dcs_17 (n := 264) (by decide +kernel)
theorem dX4_readLaw_61 : decode cX4_readLaw 61 = .ok (.invokevirtual 128, 3) := dcw_182 (by decide +kernel)
theorem dX4_readLaw_64 : decode cX4_readLaw 64 = .ok (.aload_n 0, 1) := dc1_42 (by decide +kernel)
theorem dX4_readLaw_65 : decode cX4_readLaw 65 = .ok (.sipush 265, 3) := dcs_17 (n := 265) (by decide +kernel)
theorem dX4_readLaw_68 : decode cX4_readLaw 68 = .ok (.invokevirtual 128, 3) := dcw_182 (by decide +kernel)
theorem dX4_readLaw_71 : decode cX4_readLaw 71 = .ok (.iinc 2 1, 3) := dc_iinc (m := 1) (by decide +kernel)
theorem dX4_readLaw_74 : decode cX4_readLaw 74 = .ok (.goto (-55), 3) := dcs_167 (n := 65481) (by decide +kernel)
theorem dX4_readLaw_77 : decode cX4_readLaw 77 = .ok (.aload_n 0, 1) := dc1_42 (by decide +kernel)
theorem dX4_readLaw_78 : decode cX4_readLaw 78 = .ok (.bipush 59, 2) := dcb_16 (n := 59) (by decide +kernel)
theorem dX4_readLaw_80 : decode cX4_readLaw 80 = .ok (.invokevirtual 128, 3) := dcw_182 (by decide +kernel)
theorem dX4_readLaw_83 : decode cX4_readLaw 83 = .ok (.return_, 1) := dc1_177 (by decide +kernel)
theorem ggX10_read_X4_readTape : GoodIn wsX10_read wsX4_readTape := gi_sub (fun w h => List.mem_cons_of_mem _ (List.mem_append_left _ (List.mem_append_left _ (List.mem_append_left _ (List.mem_append_left _ (List.mem_append_left _ (List.mem_append_left _ (List.mem_append_left _ (List.mem_append_left _ (List.mem_append_left _ (List.mem_append_right _ (List.mem_append_left _ h)))))))))))) gd_wsX4_readTape
set_option maxRecDepth 20000 in
theorem gX10_read_X4_readTape_n89 : GoodIn wsX10_read (wsX4_readTape) := ggX10_read_X4_readTape
theorem ggX10_read_X5_copyFrom : GoodIn wsX10_read wsX5_copyFrom := gi_sub (fun w h => List.mem_cons_of_mem _ (List.mem_append_left _ (List.mem_append_left _ (List.mem_append_left _ (List.mem_append_left _ (List.mem_append_left _ (List.mem_append_left _ (List.mem_append_left _ (List.mem_append_left _ (List.mem_append_left _ (List.mem_append_right _ (List.mem_append_right _ (List.mem_append_left _ h))))))))))))) gd_wsX5_copyFrom
set_option maxRecDepth 20000 in
theorem gX10_read_X5_copyFrom_n96 : GoodIn wsX10_read (wsX5_copyFrom) := ggX10_read_X5_copyFrom
theorem ggX10_read_X6_startOver : GoodIn wsX10_read wsX6_startOver := gi_sub (fun w h => List.mem_cons_of_mem _ (List.mem_append_left _ (List.mem_append_left _ (List.mem_append_left _ (List.mem_append_left _ (List.mem_append_left _ (List.mem_append_left _ (List.mem_append_left _ (List.mem_append_left _ (List.mem_append_left _ (List.mem_append_right _ (List.mem_append_right _ (List.mem_append_right _ (List.mem_append_left _ h)))))))))))))) gd_wsX6_startOver
set_option maxRecDepth 20000 in
theorem gX10_read_X6_startOver_n74 : GoodIn wsX10_read (wsX6_startOver) := ggX10_read_X6_startOver
theorem ggX10_read_X3_forgetAll : GoodIn wsX10_read wsX3_forgetAll := gi_sub (fun w h => List.mem_cons_of_mem _ (List.mem_append_left _ (List.mem_append_left _ (List.mem_append_left _ (List.mem_append_left _ (List.mem_append_left _ (List.mem_append_left _ (List.mem_append_left _ (List.mem_append_left _ (List.mem_append_left _ (List.mem_append_right _ (List.mem_append_right _ (List.mem_append_right _ (List.mem_append_right _ h)))))))))))))) gd_wsX3_forgetAll
set_option maxRecDepth 20000 in
theorem gX10_read_X3_forgetAll_n99 : GoodIn wsX10_read (wsX3_forgetAll) := ggX10_read_X3_forgetAll
theorem dX10_read_0 : decode cX10_read 0 = .ok (.aload_n 0, 1) := dc1_42 (by decide +kernel)
theorem dX10_read_1 : decode cX10_read 1 = .ok (.getfield 28, 3) := dcw_180 (by decide +kernel)
theorem dX10_read_4 : decode cX10_read 4 = .ok (.invokevirtual 89, 3) := dcw_182 (by decide +kernel)
theorem dX10_read_7 : decode cX10_read 7 = .ok (.istore_n 1, 1) := dc1_60 (by decide +kernel)
theorem dX10_read_8 : decode cX10_read 8 = .ok (.aload_n 0, 1) := dc1_42 (by decide +kernel)
theorem dX10_read_9 : decode cX10_read 9 = .ok (.getfield 10, 3) := dcw_180 (by decide +kernel)
theorem dX10_read_12 : decode cX10_read 12 = .ok (.iconst 0, 1) := dc1_3 (by decide +kernel)
theorem dX10_read_13 : decode cX10_read 13 = .ok (.putfield 85, 3) := dcw_181 (by decide +kernel)
theorem dX10_read_16 : decode cX10_read 16 = .ok (.iload_n 1, 1) := dc1_27 (by decide +kernel)
theorem dX10_read_17 : decode cX10_read 17 = .ok (.ifCond .ne 39, 3) := dcs_154 (n := 39) (by decide +kernel)
theorem dX10_read_20 : decode cX10_read 20 = .ok (.aload_n 0, 1) := dc1_42 (by decide +kernel)
theorem dX10_read_21 : decode cX10_read 21 = .ok (.getfield 19, 3) := dcw_180 (by decide +kernel)
theorem dX10_read_24 : decode cX10_read 24 = .ok (.aload_n 0, 1) := dc1_42 (by decide +kernel)
theorem dX10_read_25 : decode cX10_read 25 = .ok (.getfield 28, 3) := dcw_180 (by decide +kernel)
theorem dX10_read_28 : decode cX10_read 28 = .ok (.getfield 93, 3) := dcw_180 (by decide +kernel)
theorem dX10_read_31 : decode cX10_read 31 = .ok (.invokevirtual 96, 3) := dcw_182 (by decide +kernel)
theorem dX10_read_34 : decode cX10_read 34 = .ok (.aload_n 0, 1) := dc1_42 (by decide +kernel)
theorem dX10_read_35 : decode cX10_read 35 = .ok (.getfield 35, 3) := dcw_180 (by decide +kernel)
theorem dX10_read_38 : decode cX10_read 38 = .ok (.invokevirtual 74, 3) := dcw_182 (by decide +kernel)
theorem dX10_read_41 : decode cX10_read 41 = .ok (.aload_n 0, 1) := dc1_42 (by decide +kernel)
theorem dX10_read_42 : decode cX10_read 42 = .ok (.getfield 45, 3) := dcw_180 (by decide +kernel)
theorem dX10_read_45 : decode cX10_read 45 = .ok (.invokevirtual 99, 3) := dcw_182 (by decide +kernel)
theorem dX10_read_48 : decode cX10_read 48 = .ok (.aload_n 0, 1) := dc1_42 (by decide +kernel)
theorem dX10_read_49 : decode cX10_read 49 = .ok (.getfield 70, 3) := dcw_180 (by decide +kernel)
theorem dX10_read_52 : decode cX10_read 52 = .ok (.iconst 0, 1) := dc1_3 (by decide +kernel)
theorem dX10_read_53 : decode cX10_read 53 = .ok (.putfield 102, 3) := dcw_181 (by decide +kernel)
theorem dX10_read_56 : decode cX10_read 56 = .ok (.iload_n 1, 1) := dc1_27 (by decide +kernel)
theorem dX10_read_57 : decode cX10_read 57 = .ok (.ireturn, 1) := dc1_172 (by decide +kernel)
theorem ggX10_sure_X10_isHere : GoodIn wsX10_sure wsX10_isHere := gi_sub (fun w h => List.mem_cons_of_mem _ (List.mem_append_left _ (List.mem_append_left _ (List.mem_append_left _ (List.mem_append_left _ (List.mem_append_left _ (List.mem_append_left _ (List.mem_append_right _ (List.mem_append_left _ h))))))))) gd_wsX10_isHere
set_option maxRecDepth 20000 in
theorem gX10_sure_X10_isHere : GoodIn wsX10_sure (wsV RX10 164 RX10 yX10_isHere wsX10_isHere) := goodIn_app (goodIn_r _ [5, 6, 7, 8] (by decide +kernel) (by decide +kernel)) ggX10_sure_X10_isHere
theorem ggX10_sure_X6_copyFrom : GoodIn wsX10_sure wsX6_copyFrom := gi_sub (fun w h => List.mem_cons_of_mem _ (List.mem_append_left _ (List.mem_append_left _ (List.mem_append_left _ (List.mem_append_left _ (List.mem_append_left _ (List.mem_append_left _ (List.mem_append_right _ (List.mem_append_right _ (List.mem_append_left _ h)))))))))) gd_wsX6_copyFrom
set_option maxRecDepth 20000 in
theorem gX10_sure_X6_copyFrom_n227 : GoodIn wsX10_sure (wsX6_copyFrom) := ggX10_sure_X6_copyFrom
theorem ggX10_sure_X2_oddsOverWithin : GoodIn wsX10_sure wsX2_oddsOverWithin := gi_sub (fun w h => List.mem_cons_of_mem _ (List.mem_append_left _ (List.mem_append_left _ (List.mem_append_left _ (List.mem_append_left _ (List.mem_append_left _ (List.mem_append_left _ (List.mem_append_right _ (List.mem_append_right _ (List.mem_append_right _ h)))))))))) gd_wsX2_oddsOverWithin
set_option maxRecDepth 20000 in
theorem gX10_sure_X2_oddsOverWithin_n229 : GoodIn wsX10_sure (wsX2_oddsOverWithin) := ggX10_sure_X2_oddsOverWithin
theorem dX10_sure_0 : decode cX10_sure 0 = .ok (.aload_n 0, 1) := dc1_42 (by decide +kernel)
theorem dX10_sure_1 : decode cX10_sure 1 = .ok (.iload_n 1, 1) := dc1_27 (by decide +kernel)
theorem dX10_sure_2 : decode cX10_sure 2 = .ok (.invokevirtual 164, 3) := dcw_182 (by decide +kernel)
theorem dX10_sure_5 : decode cX10_sure 5 = .ok (.ifCond .eq 24, 3) := dcs_153 (n := 24) (by decide +kernel)
theorem dX10_sure_8 : decode cX10_sure 8 = .ok (.aload_n 0, 1) := dc1_42 (by decide +kernel)
theorem dX10_sure_9 : decode cX10_sure 9 = .ok (.getfield 19, 3) := dcw_180 (by decide +kernel)
theorem dX10_sure_12 : decode cX10_sure 12 = .ok (.getfield 167, 3) := dcw_180 (by decide +kernel)
theorem dX10_sure_15 : decode cX10_sure 15 = .ok (.ifCond .eq 14, 3) := dcs_153 (n := 14) (by decide +kernel)
theorem dX10_sure_18 : decode cX10_sure 18 = .ok (.iload_n 2, 1) := dc1_28 (by decide +kernel)
theorem dX10_sure_19 : decode cX10_sure 19 = .ok (.iconst 1, 1) := dc1_4 (by decide +kernel)
theorem dX10_sure_20 : decode cX10_sure 20 = .ok (.if_icmp .lt 9, 3) := dcs_161 (n := 9) (by decide +kernel)
theorem dX10_sure_23 : decode cX10_sure 23 = .ok (.iload_n 2, 1) := dc1_28 (by decide +kernel)
theorem dX10_sure_24 : decode cX10_sure 24 = .ok (.bipush 8, 2) := dcb_16 (n := 8) (by decide +kernel)
theorem dX10_sure_26 : decode cX10_sure 26 = .ok (.if_icmp .le 5, 3) := dcs_164 (n := 5) (by decide +kernel)
theorem dX10_sure_29 : decode cX10_sure 29 = .ok (.iconst (-1), 1) := dc1_2 (by decide +kernel)
theorem dX10_sure_30 : decode cX10_sure 30 = .ok (.ireturn, 1) := dc1_172 (by decide +kernel)
theorem dX10_sure_31 : decode cX10_sure 31 = .ok (.aload_n 0, 1) := dc1_42 (by decide +kernel)
theorem dX10_sure_32 : decode cX10_sure 32 = .ok (.getfield 39, 3) := dcw_180 (by decide +kernel)
theorem dX10_sure_35 : decode cX10_sure 35 = .ok (.aload_n 0, 1) := dc1_42 (by decide +kernel)
theorem dX10_sure_36 : decode cX10_sure 36 = .ok (.getfield 35, 3) := dcw_180 (by decide +kernel)
theorem dX10_sure_39 : decode cX10_sure 39 = .ok (.invokevirtual 227, 3) := dcw_182 (by decide +kernel)
theorem dX10_sure_42 : decode cX10_sure 42 = .ok (.aload_n 0, 1) := dc1_42 (by decide +kernel)
theorem dX10_sure_43 : decode cX10_sure 43 = .ok (.getfield 63, 3) := dcw_180 (by decide +kernel)
theorem dX10_sure_46 : decode cX10_sure 46 = .ok (.aload_n 0, 1) := dc1_42 (by decide +kernel)
theorem dX10_sure_47 : decode cX10_sure 47 = .ok (.getfield 39, 3) := dcw_180 (by decide +kernel)
theorem dX10_sure_50 : decode cX10_sure 50 = .ok (.iload_n 1, 1) := dc1_27 (by decide +kernel)
theorem dX10_sure_51 : decode cX10_sure 51 = .ok (.iload_n 2, 1) := dc1_28 (by decide +kernel)
theorem dX10_sure_52 : decode cX10_sure 52 = .ok (.invokevirtual 229, 3) := dcw_182 (by decide +kernel)
theorem dX10_sure_55 : decode cX10_sure 55 = .ok (.ireturn, 1) := dc1_172 (by decide +kernel)
theorem LX10_sure_19 : Cond.fieldLink RX10 19 "GuessFerry" "sound" "LGuessFerry$Sound;" ∈ wsX10_sure := by decide +kernel
theorem LX10_sure_35 : Cond.fieldLink RX10 35 "GuessFerry" "now" "LGuessFerry$Standing;" ∈ wsX10_sure := by decide +kernel
theorem LX10_sure_39 : Cond.fieldLink RX10 39 "GuessFerry" "trial" "LGuessFerry$Standing;" ∈ wsX10_sure := by decide +kernel
theorem LX10_sure_63 : Cond.fieldLink RX10 63 "GuessFerry" "outlook" "LGuessFerry$Outlook;" ∈ wsX10_sure := by decide +kernel
theorem LX10_sure_E_X2_oddsOverWithin : Cond.selects RX2 yX2_oddsOverWithin yX2_oddsOverWithin ∈ wsX10_sure := by decide +kernel
theorem LX10_sure_E_X6_copyFrom : Cond.selects RX6 yX6_copyFrom yX6_copyFrom ∈ wsX10_sure := by decide +kernel
theorem LX10_sure_I_X2 : Cond.initialized RX2 ∈ wsX10_sure := by decide +kernel
theorem LX10_sure_I_X6 : Cond.initialized RX6 ∈ wsX10_sure := by decide +kernel
theorem LX10_sure_N_X2_oddsOverWithin : Cond.instanceMethod yX2_oddsOverWithin ∈ wsX10_sure := by decide +kernel
theorem LX10_sure_N_X6_copyFrom : Cond.instanceMethod yX6_copyFrom ∈ wsX10_sure := by decide +kernel
theorem inX10_sure_X10 : ∀ w ∈ u_ws RX10 TX10 9, w ∈ wsX10_sure := by decide +kernel
theorem inX10_sure_X5 : ∀ w ∈ u_ws RX5 TX5 10, w ∈ wsX10_sure := by decide +kernel
set_option maxHeartbeats 4000000 in
set_option maxRecDepth 100000 in
theorem bkX10_sure {l : Launch} {dC : Nat → ClassId} {dI : Nat → Nat → Nat} {cB cI cJ cZ cS : ClassId} {a b b2 c0 : Nat → Nat} {rg sl : Nat → Option Nat} {as : List Value} {r : Int32} {s' : XS} (s : XS) (x1 : Int32) (x2 : Int32) (hB : kX10_sure s x1 x2 = some (r, s')) : BlkI l yX10_sure wsX10_sure ({ frames := 16, cells := 0, slots := 0, locals := 432 }) cX10_sure 3 (some .int) (dC, dI) (tysA cB cI cJ cZ cS) as 0 (wX cB cI cJ cZ cS a b b2 c0 rg sl s) [(0, .ref (c0 0)), (1, .int x1), (2, .int x2)] [] (fun x u => x = r ∧ u = (wX cB cI cJ cZ cS a b b2 c0 rg sl s')) := by
  intro p e s0 m below meth c A E H locs ls hP hD hS hl
  obtain ⟨C, hr, hlocks, hA, hK, hN⟩ := id E
  obtain ⟨hx, hb, hml, hown, hts⟩ := id C
  unfold kX10_sure at hB
  refine lv_aload_n hx hb dX10_sure_0 rfl (lv_at hl 0 rfl) ?_
  refine lv_iload_n hx hb dX10_sure_1 rfl (lv_at hl 1 rfl) ?_
  obtain ⟨q_, s1, hc, hB⟩ := bindI_inv hB
  refine q_goiF (va_runV (As := [.int x1]) (rest := []) C (ckX10_isHere hc _) (cwV 1 hts gX10_sure_X10_isHere rfl rfl rfl (by decide +kernel) ⟨Nat.le_of_ble_eq_true rfl, Nat.le_of_ble_eq_true rfl⟩) (q_preV hK hP (ci := 10) (q0 := 0) rfl rfl rfl (q_preF hN hK hP hD)) rfl rfl hl.1 rfl (lv_room (Nat.le_of_ble_eq_true rfl)) dX10_sure_2 ⟨Nat.le_of_ble_eq_true rfl, Nat.le_of_ble_eq_true rfl⟩) hD hS hA (fun r2 w1 H locs hw hP hD hS => ?_)
  obtain ⟨hq_, hw⟩ := hw; subst hw; subst hq_
  refine lv_if_eq (tgt := 29) hx hb dX10_sure_5 (by decide) (fun c3 => ?_) (fun c3 => ?_)
  · have hB := if_p hB c3
    refine lv_iconst (v := (-1)) hx hb dX10_sure_29 (by decide) ?_
    exact q_iret C hr hlocks hK hP hD hS (Nat.le_of_ble_eq_true rfl) (Nat.le_of_ble_eq_true rfl) dX10_sure_30 (by cases hB; exact ⟨rfl, rfl⟩)
  · have hB := if_n hB c3
    refine lv_aload_n hx hb dX10_sure_8 rfl (lv_at hl 0 rfl) ?_
    refine q_get (v := .ref (a 2)) C inX10_sure_X10 hK hP 0 rfl rfl 1 (by decide) rfl LX10_sure_19 rfl dX10_sure_9 ?_
    refine q_getN (v := .int (s1.k.v 1)) C hN inX10_sure_X5 hK hP 19 rfl rfl 6 (by decide) rfl nwF_X10_167 rfl dX10_sure_12 ?_
    refine lv_if_eq (tgt := 29) hx hb dX10_sure_15 (by decide) (fun c4 => ?_) (fun c4 => ?_)
    · have hB := if_p hB c4
      refine lv_iconst (v := (-1)) hx hb dX10_sure_29 (by decide) ?_
      exact q_iret C hr hlocks hK hP hD hS (Nat.le_of_ble_eq_true rfl) (Nat.le_of_ble_eq_true rfl) dX10_sure_30 (by cases hB; exact ⟨rfl, rfl⟩)
    · have hB := if_n hB c4
      refine lv_iload_n hx hb dX10_sure_18 rfl (lv_at hl 2 rfl) ?_
      refine lv_iconst (v := 1) hx hb dX10_sure_19 (by decide) ?_
      refine lv_icmp_lt (tgt := 29) hx hb dX10_sure_20 (by decide) (fun c5 => ?_) (fun c5 => ?_)
      · have hB := if_p hB c5
        refine lv_iconst (v := (-1)) hx hb dX10_sure_29 (by decide) ?_
        exact q_iret C hr hlocks hK hP hD hS (Nat.le_of_ble_eq_true rfl) (Nat.le_of_ble_eq_true rfl) dX10_sure_30 (by cases hB; exact ⟨rfl, rfl⟩)
      · have hB := if_n hB c5
        refine lv_iload_n hx hb dX10_sure_23 rfl (lv_at hl 2 rfl) ?_
        refine lv_bipush (v := 8) hx hb dX10_sure_24 (by decide) ?_
        refine lv_icmp_le (tgt := 31) hx hb dX10_sure_26 (by decide) (fun c6 => ?_) (fun c6 => ?_)
        · have hB := if_p hB c6
          refine lv_aload_n hx hb dX10_sure_31 rfl (lv_at hl 0 rfl) ?_
          refine q_get (v := .ref (b2 0)) C inX10_sure_X10 hK hP 0 rfl rfl 4 (by decide) rfl LX10_sure_39 rfl dX10_sure_32 ?_
          refine lv_aload_n hx hb dX10_sure_35 rfl (lv_at hl 0 rfl) ?_
          refine q_get (v := .ref (b 0)) C inX10_sure_X10 hK hP 0 rfl rfl 3 (by decide) rfl LX10_sure_35 rfl dX10_sure_36 ?_
          obtain ⟨s7, hc, hB⟩ := bindP_inv hB
          refine q_gov (wr := ((wG cZ cS a b b2 c0 rg sl s1.g) ++ (wK cB cI cJ cZ cS a s1.k))) (va_runVN (As := [.ref (b 0)]) (rest := []) C (ckX6_copyFrom hc _) ⟨va_cnB 1 hts gX10_sure_X6_copyFrom_n227 rfl rfl rfl (hN _ nwM_X10_227 rfl) (hts _ LX10_sure_I_X6) (by decide +kernel) ⟨Nat.le_of_ble_eq_true rfl, Nat.le_of_ble_eq_true rfl⟩, hts _ LX10_sure_N_X6_copyFrom, hts _ LX10_sure_E_X6_copyFrom⟩ (q_preV hK hP (ci := 6) (q0 := 5) rfl rfl rfl (q_pre hN hK hP hD [11, 12, 13, 14, 15, 16, 5, 6, 7, 8, 9, 10] rfl (by decide))) rfl rfl hl.1 rfl (lv_room (Nat.le_of_ble_eq_true rfl)) dX10_sure_39 ⟨Nat.le_of_ble_eq_true rfl, Nat.le_of_ble_eq_true rfl⟩) hP hD hS hA [11, 12, 13, 14, 15, 16, 5, 6, 7, 8, 9, 10] [0, 1, 2, 3, 4, 17, 18, 19, 20, 21, 22, 23, 24, 25, 26, 27, 28, 29, 30, 31, 32, 33, 34, 35, 36, 37, 38, 39, 40, 41, 42, 43, 44, 45, 46, 47, 48, 49, 50, 51, 52, 53, 54, 55, 56, 57, 58, 59, 60, 61, 62, 63] rfl rfl (by decide) (by decide) (fun w1 H locs hw hP hD hS => ?_)
          subst hw
          obtain ⟨s8, hs9, hB⟩ := letS_inv hB
          have hP : va_P (dC, dI) vwCl (wX cB cI cJ cZ cS a b b2 c0 rg sl s8) H := by subst hs9; exact hP.sub [0, 1, 2, 3, 4, 58, 59, 60, 61, 62, 63, 52, 53, 54, 55, 56, 57, 5, 6, 7, 8, 9, 10, 11, 12, 13, 14, 15, 16, 17, 18, 19, 20, 21, 22, 23, 24, 25, 26, 27, 28, 29, 30, 31, 32, 33, 34, 35, 36, 37, 38, 39, 40, 41, 42, 43, 44, 45, 46, 47, 48, 49, 50, 51] rfl
          have hD : va_D A (wX cB cI cJ cZ cS a b b2 c0 rg sl s8) := by subst hs9; exact hD.sub [0, 1, 2, 3, 4, 58, 59, 60, 61, 62, 63, 52, 53, 54, 55, 56, 57, 5, 6, 7, 8, 9, 10, 11, 12, 13, 14, 15, 16, 17, 18, 19, 20, 21, 22, 23, 24, 25, 26, 27, 28, 29, 30, 31, 32, 33, 34, 35, 36, 37, 38, 39, 40, 41, 42, 43, 44, 45, 46, 47, 48, 49, 50, 51] (by decide) rfl
          refine lv_aload_n hx hb dX10_sure_42 rfl (lv_at hl 0 rfl) ?_
          refine q_get (v := .ref (a 36)) C inX10_sure_X10 hK hP 0 rfl rfl 7 (by decide) rfl LX10_sure_63 rfl dX10_sure_43 ?_
          refine lv_aload_n hx hb dX10_sure_46 rfl (lv_at hl 0 rfl) ?_
          refine q_get (v := .ref (b2 0)) C inX10_sure_X10 hK hP 0 rfl rfl 4 (by decide) rfl LX10_sure_39 rfl dX10_sure_47 ?_
          refine lv_iload_n hx hb dX10_sure_50 rfl (lv_at hl 1 rfl) ?_
          refine lv_iload_n hx hb dX10_sure_51 rfl (lv_at hl 2 rfl) ?_
          obtain ⟨q_, s10, hc, hB⟩ := bindI_inv hB
          refine q_goi (wr := ((wG cZ cS a b b2 c0 rg sl s8.g) ++ (wD cI b s8.n))) (va_runVN (As := [.ref (b2 0), .int x1, .int x2]) (rest := []) C (ckX2_oddsOverWithin_9 hc _) ⟨va_cnB 3 hts gX10_sure_X2_oddsOverWithin_n229 rfl rfl rfl (hN _ nwM_X10_229 rfl) (hts _ LX10_sure_I_X2) (by decide +kernel) ⟨Nat.le_of_ble_eq_true rfl, Nat.le_of_ble_eq_true rfl⟩, hts _ LX10_sure_N_X2_oddsOverWithin, hts _ LX10_sure_E_X2_oddsOverWithin⟩ (q_preV hK hP (ci := 2) (q0 := 53) rfl rfl rfl (q_pre hN hK hP hD [5, 6, 7, 8, 9, 10, 17, 18, 19, 20, 21, 22, 23, 24, 25, 26, 27, 28, 29, 30, 31, 32, 33, 34, 35, 36, 37, 38, 39, 40, 41, 42, 43, 44, 45, 46, 47, 48, 49, 50, 51, 52, 53, 54, 55, 56, 57, 58, 59, 60, 61, 62, 63] rfl (by decide))) rfl rfl hl.1 rfl (lv_room (Nat.le_of_ble_eq_true rfl)) dX10_sure_52 ⟨Nat.le_of_ble_eq_true rfl, Nat.le_of_ble_eq_true rfl⟩) hP hD hS hA [5, 6, 7, 8, 9, 10, 17, 18, 19, 20, 21, 22, 23, 24, 25, 26, 27, 28, 29, 30, 31, 32, 33, 34, 35, 36, 37, 38, 39, 40, 41, 42, 43, 44, 45, 46, 47, 48, 49, 50, 51, 52, 53, 54, 55, 56, 57, 58, 59, 60, 61, 62, 63] [0, 1, 2, 3, 4, 11, 12, 13, 14, 15, 16] rfl rfl (by decide) (by decide) (fun r11 w1 H locs hw hP hD hS => ?_)
          obtain ⟨hq_, hw⟩ := hw; subst hw; subst hq_
          obtain ⟨s12, hs13, hB⟩ := letS_inv hB
          have hP : va_P (dC, dI) vwCl (wX cB cI cJ cZ cS a b b2 c0 rg sl s12) H := by subst hs13; exact hP.sub [0, 1, 2, 3, 4, 11, 12, 13, 14, 15, 16, 5, 6, 7, 8, 9, 10, 17, 18, 19, 20, 21, 22, 23, 24, 25, 26, 27, 28, 29, 30, 31, 32, 33, 34, 35, 36, 37, 38, 39, 40, 41, 42, 43, 44, 45, 46, 47, 48, 49, 50, 51, 52, 53, 54, 55, 56, 57, 58, 59, 60, 61, 62, 63] rfl
          have hD : va_D A (wX cB cI cJ cZ cS a b b2 c0 rg sl s12) := by subst hs13; exact hD.sub [0, 1, 2, 3, 4, 11, 12, 13, 14, 15, 16, 5, 6, 7, 8, 9, 10, 17, 18, 19, 20, 21, 22, 23, 24, 25, 26, 27, 28, 29, 30, 31, 32, 33, 34, 35, 36, 37, 38, 39, 40, 41, 42, 43, 44, 45, 46, 47, 48, 49, 50, 51, 52, 53, 54, 55, 56, 57, 58, 59, 60, 61, 62, 63] (by decide) rfl
          exact q_iret C hr hlocks hK hP hD hS (Nat.le_of_ble_eq_true rfl) (Nat.le_of_ble_eq_true rfl) dX10_sure_55 (by cases hB; exact ⟨rfl, rfl⟩)
        · have hB := if_n hB c6
          refine lv_iconst (v := (-1)) hx hb dX10_sure_29 (by decide) ?_
          exact q_iret C hr hlocks hK hP hD hS (Nat.le_of_ble_eq_true rfl) (Nat.le_of_ble_eq_true rfl) dX10_sure_30 (by cases hB; exact ⟨rfl, rfl⟩)
theorem ckX10_sure {l : Launch} {dC : Nat → ClassId} {dI : Nat → Nat → Nat} {cB cI cJ cZ cS : ClassId} {a b b2 c0 : Nat → Nat} {rg sl : Nat → Option Nat} {r : Int32} {s' : XS} {s : XS} {x1 : Int32} {x2 : Int32} (hB : kX10_sure s x1 x2 = some (r, s')) : CI l yX10_sure wsX10_sure ({ frames := 16, cells := 0, slots := 0, locals := 432 }) (dC, dI) (tysA cB cI cJ cZ cS) (wX cB cI cJ cZ cS a b b2 c0 rg sl s) [.ref (c0 0), .int x1, .int x2] (fun x u => x = r ∧ u = (wX cB cI cJ cZ cS a b b2 c0 rg sl s')) :=
  CI_of (cc := cX10_sure) (maxL := 3) (ret := (some .int)) (by decide) rfl (Nat.le_of_ble_eq_true rfl) (bkX10_sure _ _ _ hB)
theorem LX4_readLaw_12 : Cond.fieldLink RX4 12 "GuessFerry$Reader" "draft" "LGuessFerry$Sound;" ∈ wsX4_readLaw := by decide +kernel
theorem LX4_readLaw_E_X1_begin : Cond.selects RX1 yX1_begin yX1_begin ∈ wsX4_readLaw := by decide +kernel
theorem LX4_readLaw_I_X1 : Cond.initialized RX1 ∈ wsX4_readLaw := by decide +kernel
theorem LX4_readLaw_N_X1_begin : Cond.instanceMethod yX1_begin ∈ wsX4_readLaw := by decide +kernel
theorem inX4_readLaw_X4 : ∀ w ∈ u_ws RX4 TX4 8, w ∈ wsX4_readLaw := by decide +kernel
theorem inX4_readLaw_X5 : ∀ w ∈ u_ws RX5 TX5 10, w ∈ wsX4_readLaw := by decide +kernel
set_option maxHeartbeats 4000000 in
set_option maxRecDepth 100000 in
theorem bkX4_readLaw_77 {l : Launch} {dC : Nat → ClassId} {dI : Nat → Nat → Nat} {cB cI cJ cZ cS : ClassId} {a : Nat → Nat} {as : List Value} {s' : KS} (s : KS) (hB : kX4_readLaw_77 s = some s') : BlkV l yX4_readLaw wsX4_readLaw ({ frames := 28, cells := 0, slots := 0, locals := 638 }) cX4_readLaw 3 none (dC, dI) (tysA cB cI cJ cZ cS) as 77 (wK cB cI cJ cZ cS a s) [(0, .ref (a 28))] [] (fun u => u = (wK cB cI cJ cZ cS a s')) := by
  intro p e s0 m below meth c A E H locs ls hP hD hS hl
  obtain ⟨C, hr, hlocks, hA, hK, hN⟩ := id E
  obtain ⟨hx, hb, hml, hown, hts⟩ := id C
  unfold kX4_readLaw_77 at hB
  refine lv_aload_n hx hb dX4_readLaw_77 rfl (lv_at hl 0 rfl) ?_
  refine lv_bipush (v := 59) hx hb dX4_readLaw_78 (by decide) ?_
  obtain ⟨s1, hc, hB⟩ := bindP_inv hB
  refine q_govF (va_runV (As := [.int 59]) (rest := []) C (ckX4_readPart hc _) (cwV 1 hts gX4_readLaw_X4_readPart rfl rfl rfl (by decide +kernel) ⟨Nat.le_of_ble_eq_true rfl, Nat.le_of_ble_eq_true rfl⟩) (q_preV hK hP (ci := 4) (q0 := 28) rfl rfl rfl (q_preF hN hK hP hD)) rfl rfl hl.1 rfl (lv_room (Nat.le_of_ble_eq_true rfl)) dX4_readLaw_80 ⟨Nat.le_of_ble_eq_true rfl, Nat.le_of_ble_eq_true rfl⟩) hD hS hA (fun w1 H locs hw hP hD hS => ?_)
  subst hw
  exact q_vret C hr hlocks hK hP hD hS (Nat.le_of_ble_eq_true rfl) (Nat.le_of_ble_eq_true rfl) dX4_readLaw_83 (by cases hB; rfl)
set_option maxHeartbeats 4000000 in
set_option maxRecDepth 100000 in
theorem bkX4_readLaw_44 {l : Launch} {dC : Nat → ClassId} {dI : Nat → Nat → Nat} {cB cI cJ cZ cS : ClassId} {a : Nat → Nat} {as : List Value} {s' : KS} {k19 : KS → Int32 → Option KS} (hk19 : ∀ (s : KS) (x2 : Int32), k19 s x2 = some s' → BlkV l yX4_readLaw wsX4_readLaw ({ frames := 28, cells := 0, slots := 0, locals := 638 }) cX4_readLaw 3 none (dC, dI) (tysA cB cI cJ cZ cS) as 19 (wK cB cI cJ cZ cS a s) [(0, .ref (a 28)), (2, .int x2)] [] (fun u => u = (wK cB cI cJ cZ cS a s'))) (s : KS) (x2 : Int32) (hB : kX4_readLaw_44 k19 s x2 = some s') : BlkV l yX4_readLaw wsX4_readLaw ({ frames := 28, cells := 0, slots := 0, locals := 638 }) cX4_readLaw 3 none (dC, dI) (tysA cB cI cJ cZ cS) as 44 (wK cB cI cJ cZ cS a s) [(0, .ref (a 28)), (2, .int x2)] [] (fun u => u = (wK cB cI cJ cZ cS a s')) := by
  intro p e s0 m below meth c A E H locs ls hP hD hS hl
  obtain ⟨C, hr, hlocks, hA, hK, hN⟩ := id E
  obtain ⟨hx, hb, hml, hown, hts⟩ := id C
  unfold kX4_readLaw_44 at hB
  refine lv_aload_n hx hb dX4_readLaw_44 rfl (lv_at hl 0 rfl) ?_
  refine lv_sipush (v := 263) hx hb dX4_readLaw_45 (by decide) ?_
  obtain ⟨s1, hc, hB⟩ := bindP_inv hB
  refine q_govF (va_runV (As := [.int 263]) (rest := []) C (ckX4_take hc _) (cwV 1 hts gX4_readLaw_X4_take rfl rfl rfl (by decide +kernel) ⟨Nat.le_of_ble_eq_true rfl, Nat.le_of_ble_eq_true rfl⟩) (q_preV hK hP (ci := 4) (q0 := 28) rfl rfl rfl (q_preF hN hK hP hD)) rfl rfl hl.1 rfl (lv_room (Nat.le_of_ble_eq_true rfl)) dX4_readLaw_48 ⟨Nat.le_of_ble_eq_true rfl, Nat.le_of_ble_eq_true rfl⟩) hD hS hA (fun w1 H locs hw hP hD hS => ?_)
  subst hw
  refine lv_aload_n hx hb dX4_readLaw_51 rfl (lv_at hl 0 rfl) ?_
  refine lv_bipush (v := 60) hx hb dX4_readLaw_52 (by decide) ?_
  obtain ⟨s2, hc, hB⟩ := bindP_inv hB
  refine q_govF (va_runV (As := [.int 60]) (rest := []) C (ckX4_readPart hc _) (cwV 1 hts gX4_readLaw_X4_readPart rfl rfl rfl (by decide +kernel) ⟨Nat.le_of_ble_eq_true rfl, Nat.le_of_ble_eq_true rfl⟩) (q_preV hK hP (ci := 4) (q0 := 28) rfl rfl rfl (q_preF hN hK hP hD)) rfl rfl hl.1 rfl (lv_room (Nat.le_of_ble_eq_true rfl)) dX4_readLaw_54 ⟨Nat.le_of_ble_eq_true rfl, Nat.le_of_ble_eq_true rfl⟩) hD hS hA (fun w1 H locs hw hP hD hS => ?_)
  subst hw
  refine lv_aload_n hx hb dX4_readLaw_57 rfl (lv_at hl 0 rfl) ?_
  refine lv_sipush (v := 264) hx hb dX4_readLaw_58 (by decide) ?_
  obtain ⟨s3, hc, hB⟩ := bindP_inv hB
  refine q_govF (va_runV (As := [.int 264]) (rest := []) C (ckX4_readPart hc _) (cwV 1 hts gX4_readLaw_X4_readPart rfl rfl rfl (by decide +kernel) ⟨Nat.le_of_ble_eq_true rfl, Nat.le_of_ble_eq_true rfl⟩) (q_preV hK hP (ci := 4) (q0 := 28) rfl rfl rfl (q_preF hN hK hP hD)) rfl rfl hl.1 rfl (lv_room (Nat.le_of_ble_eq_true rfl)) dX4_readLaw_61 ⟨Nat.le_of_ble_eq_true rfl, Nat.le_of_ble_eq_true rfl⟩) hD hS hA (fun w1 H locs hw hP hD hS => ?_)
  subst hw
  refine lv_aload_n hx hb dX4_readLaw_64 rfl (lv_at hl 0 rfl) ?_
  refine lv_sipush (v := 265) hx hb dX4_readLaw_65 (by decide) ?_
  obtain ⟨s4, hc, hB⟩ := bindP_inv hB
  refine q_govF (va_runV (As := [.int 265]) (rest := []) C (ckX4_readPart hc _) (cwV 1 hts gX4_readLaw_X4_readPart rfl rfl rfl (by decide +kernel) ⟨Nat.le_of_ble_eq_true rfl, Nat.le_of_ble_eq_true rfl⟩) (q_preV hK hP (ci := 4) (q0 := 28) rfl rfl rfl (q_preF hN hK hP hD)) rfl rfl hl.1 rfl (lv_room (Nat.le_of_ble_eq_true rfl)) dX4_readLaw_68 ⟨Nat.le_of_ble_eq_true rfl, Nat.le_of_ble_eq_true rfl⟩) hD hS hA (fun w1 H locs hw hP hD hS => ?_)
  subst hw
  refine lv_iinc (v := (x2 + 1)) (lv' := [(2, .int (x2 + 1)), (0, .ref (a 28))]) hx hb dX4_readLaw_71 hl (k := 1) rfl (rfl) (by decide) rfl (fun ls hl => ?_)
  refine lv_goto (tgt := 19) hx hb dX4_readLaw_74 (by decide) ?_
  exact hk19 _ _ hB p e s0 m below meth c A E H locs ls hP hD hS (lv_sub hl [1, 0] rfl)
set_option maxHeartbeats 4000000 in
set_option maxRecDepth 100000 in
theorem bkX4_readLaw_19 {l : Launch} {dC : Nat → ClassId} {dI : Nat → Nat → Nat} {cB cI cJ cZ cS : ClassId} {a : Nat → Nat} {as : List Value} {s' : KS} {k19 : KS → Int32 → Option KS} (hk19 : ∀ (s : KS) (x2 : Int32), k19 s x2 = some s' → BlkV l yX4_readLaw wsX4_readLaw ({ frames := 28, cells := 0, slots := 0, locals := 638 }) cX4_readLaw 3 none (dC, dI) (tysA cB cI cJ cZ cS) as 19 (wK cB cI cJ cZ cS a s) [(0, .ref (a 28)), (2, .int x2)] [] (fun u => u = (wK cB cI cJ cZ cS a s'))) (s : KS) (x2 : Int32) (hB : kX4_readLaw_19 k19 s x2 = some s') : BlkV l yX4_readLaw wsX4_readLaw ({ frames := 28, cells := 0, slots := 0, locals := 638 }) cX4_readLaw 3 none (dC, dI) (tysA cB cI cJ cZ cS) as 19 (wK cB cI cJ cZ cS a s) [(0, .ref (a 28)), (2, .int x2)] [] (fun u => u = (wK cB cI cJ cZ cS a s')) := by
  intro p e s0 m below meth c A E H locs ls hP hD hS hl
  obtain ⟨C, hr, hlocks, hA, hK, hN⟩ := id E
  obtain ⟨hx, hb, hml, hown, hts⟩ := id C
  unfold kX4_readLaw_19 at hB
  refine lv_iload_n hx hb dX4_readLaw_19 rfl (lv_at hl 1 rfl) ?_
  refine lv_iconst (v := 4) hx hb dX4_readLaw_20 (by decide) ?_
  refine lv_icmp_gt (tgt := 77) hx hb dX4_readLaw_21 (by decide) (fun c1 => ?_) (fun c1 => ?_)
  · have hB := if_p hB c1
    exact bkX4_readLaw_77 _ hB p e s0 m below meth c A E H locs ls hP hD hS (lv_sub hl [0] rfl)
  · have hB := if_n hB c1
    refine lv_aload_n hx hb dX4_readLaw_24 rfl (lv_at hl 0 rfl) ?_
    refine lv_sipush (v := 263) hx hb dX4_readLaw_25 (by decide) ?_
    obtain ⟨q_, s2, hc, hB⟩ := bindI_inv hB
    refine q_goiF (va_runV (As := [.int 263]) (rest := []) C (ckX4_isAt hc _) (cwV 1 hts gX4_readLaw_X4_isAt rfl rfl rfl (by decide +kernel) ⟨Nat.le_of_ble_eq_true rfl, Nat.le_of_ble_eq_true rfl⟩) (q_preV hK hP (ci := 4) (q0 := 28) rfl rfl rfl (q_preF hN hK hP hD)) rfl rfl hl.1 rfl (lv_room (Nat.le_of_ble_eq_true rfl)) dX4_readLaw_28 ⟨Nat.le_of_ble_eq_true rfl, Nat.le_of_ble_eq_true rfl⟩) hD hS hA (fun r3 w1 H locs hw hP hD hS => ?_)
    obtain ⟨hq_, hw⟩ := hw; subst hw; subst hq_
    refine lv_if_eq (tgt := 77) hx hb dX4_readLaw_31 (by decide) (fun c4 => ?_) (fun c4 => ?_)
    · have hB := if_p hB c4
      exact bkX4_readLaw_77 _ hB p e s0 m below meth c A E H locs ls hP hD hS (lv_sub hl [0] rfl)
    · have hB := if_n hB c4
      refine lv_iload_n hx hb dX4_readLaw_34 rfl (lv_at hl 1 rfl) ?_
      refine lv_iconst (v := 4) hx hb dX4_readLaw_35 (by decide) ?_
      refine lv_icmp_ne (tgt := 44) hx hb dX4_readLaw_36 (by decide) (fun c5 => ?_) (fun c5 => ?_)
      · have hB := if_n hB c5
        exact bkX4_readLaw_44 (hk19) _ _ hB p e s0 m below meth c A E H locs ls hP hD hS (lv_sub hl [0, 1] rfl)
      · have hB := if_p hB c5
        refine lv_aload_n hx hb dX4_readLaw_39 rfl (lv_at hl 0 rfl) ?_
        refine lv_iconst (v := 2) hx hb dX4_readLaw_40 (by decide) ?_
        obtain ⟨s6, hc, hB⟩ := bindP_inv hB
        refine q_govF (va_runV (As := [.int 2]) (rest := []) C (ckX4_fail hc _) (cwV 1 hts gX4_readLaw_X4_fail rfl rfl rfl (by decide +kernel) ⟨Nat.le_of_ble_eq_true rfl, Nat.le_of_ble_eq_true rfl⟩) (q_preV hK hP (ci := 4) (q0 := 28) rfl rfl rfl (q_preF hN hK hP hD)) rfl rfl hl.1 rfl (lv_room (Nat.le_of_ble_eq_true rfl)) dX4_readLaw_41 ⟨Nat.le_of_ble_eq_true rfl, Nat.le_of_ble_eq_true rfl⟩) hD hS hA (fun w1 H locs hw hP hD hS => ?_)
        subst hw
        exact bkX4_readLaw_44 (hk19) _ _ hB p e s0 m below meth c A E H locs ls hP hD hS (lv_sub hl [0, 1] rfl)
theorem bkX4_readLaw_19L {l : Launch} {dC : Nat → ClassId} {dI : Nat → Nat → Nat} {cB cI cJ cZ cS : ClassId} {a : Nat → Nat} {as : List Value} {s' : KS} : ∀ (n : Nat) (s : KS) (x2 : Int32), kX4_readLaw_19L n s x2 = some s' → BlkV l yX4_readLaw wsX4_readLaw ({ frames := 28, cells := 0, slots := 0, locals := 638 }) cX4_readLaw 3 none (dC, dI) (tysA cB cI cJ cZ cS) as 19 (wK cB cI cJ cZ cS a s) [(0, .ref (a 28)), (2, .int x2)] [] (fun u => u = (wK cB cI cJ cZ cS a s')) := by
  intro n
  induction n with
  | zero => intro s x2 hB; exact none_ne hB
  | succ n ih => intro s x2 hB; exact bkX4_readLaw_19 ih _ _ hB
set_option maxHeartbeats 4000000 in
set_option maxRecDepth 100000 in
theorem bkX4_readLaw {l : Launch} {dC : Nat → ClassId} {dI : Nat → Nat → Nat} {cB cI cJ cZ cS : ClassId} {a : Nat → Nat} {as : List Value} {s' : KS} (s : KS) (x1 : Int32) (hB : kX4_readLaw s x1 = some s') : BlkV l yX4_readLaw wsX4_readLaw ({ frames := 28, cells := 0, slots := 0, locals := 638 }) cX4_readLaw 3 none (dC, dI) (tysA cB cI cJ cZ cS) as 0 (wK cB cI cJ cZ cS a s) [(0, .ref (a 28)), (1, .int x1)] [] (fun u => u = (wK cB cI cJ cZ cS a s')) := by
  intro p e s0 m below meth c A E H locs ls hP hD hS hl
  obtain ⟨C, hr, hlocks, hA, hK, hN⟩ := id E
  obtain ⟨hx, hb, hml, hown, hts⟩ := id C
  unfold kX4_readLaw at hB
  refine lv_aload_n hx hb dX4_readLaw_0 rfl (lv_at hl 0 rfl) ?_
  refine lv_bipush (v := 61) hx hb dX4_readLaw_1 (by decide) ?_
  obtain ⟨s1, hc, hB⟩ := bindP_inv hB
  refine q_govF (va_runV (As := [.int 61]) (rest := []) C (ckX4_take hc _) (cwV 1 hts gX4_readLaw_X4_take rfl rfl rfl (by decide +kernel) ⟨Nat.le_of_ble_eq_true rfl, Nat.le_of_ble_eq_true rfl⟩) (q_preV hK hP (ci := 4) (q0 := 28) rfl rfl rfl (q_preF hN hK hP hD)) rfl rfl hl.1 rfl (lv_room (Nat.le_of_ble_eq_true rfl)) dX4_readLaw_3 ⟨Nat.le_of_ble_eq_true rfl, Nat.le_of_ble_eq_true rfl⟩) hD hS hA (fun w1 H locs hw hP hD hS => ?_)
  subst hw
  refine lv_aload_n hx hb dX4_readLaw_6 rfl (lv_at hl 0 rfl) ?_
  refine q_get (v := .ref (a 15)) C inX4_readLaw_X4 hK hP 28 rfl rfl 1 (by decide) rfl LX4_readLaw_12 rfl dX4_readLaw_7 ?_
  refine q_getN (v := .ref (a 21)) C hN inX4_readLaw_X5 hK hP 15 rfl rfl 5 (by decide) rfl nwF_X4_119 rfl dX4_readLaw_10 ?_
  refine lv_iload_n hx hb dX4_readLaw_13 rfl (lv_at hl 1 rfl) ?_
  obtain ⟨s2, hc, hB⟩ := bindP_inv hB
  refine q_govF (va_runVN (As := [.int x1]) (rest := []) C (ckX1_begin hc _) ⟨va_cnB 1 hts gX4_readLaw_X1_begin_n123 rfl rfl rfl (hN _ nwM_X4_123 rfl) (hts _ LX4_readLaw_I_X1) (by decide +kernel) ⟨Nat.le_of_ble_eq_true rfl, Nat.le_of_ble_eq_true rfl⟩, hts _ LX4_readLaw_N_X1_begin, hts _ LX4_readLaw_E_X1_begin⟩ (q_preV hK hP (ci := 1) (q0 := 21) rfl rfl rfl (q_preF hN hK hP hD)) rfl rfl hl.1 rfl (lv_room (Nat.le_of_ble_eq_true rfl)) dX4_readLaw_14 ⟨Nat.le_of_ble_eq_true rfl, Nat.le_of_ble_eq_true rfl⟩) hD hS hA (fun w1 H locs hw hP hD hS => ?_)
  subst hw
  refine lv_iconst (v := 0) hx hb dX4_readLaw_17 (by decide) ?_
  refine lv_istore_n (lv' := [(2, .int 0), (0, .ref (a 28)), (1, .int x1)]) hx hb dX4_readLaw_18 rfl hl (by decide) rfl (fun ls hl => ?_)
  exact bkX4_readLaw_19L fu _ _ hB p e s0 m below meth c A E H locs ls hP hD hS (lv_sub hl [1, 0] rfl)
theorem ckX4_readLaw {l : Launch} {dC : Nat → ClassId} {dI : Nat → Nat → Nat} {cB cI cJ cZ cS : ClassId} {a : Nat → Nat} {s' : KS} {s : KS} {x1 : Int32} (hB : kX4_readLaw s x1 = some s') : CV l yX4_readLaw wsX4_readLaw ({ frames := 28, cells := 0, slots := 0, locals := 638 }) (dC, dI) (tysA cB cI cJ cZ cS) (wK cB cI cJ cZ cS a s) [.ref (a 28), .int x1] (fun u => u = (wK cB cI cJ cZ cS a s')) :=
  CV_of (cc := cX4_readLaw) (maxL := 3) (ret := none) (by decide) rfl (Nat.le_of_ble_eq_true rfl) (bkX4_readLaw _ _ hB)
theorem LX4_readTell_12 : Cond.fieldLink RX4 12 "GuessFerry$Reader" "draft" "LGuessFerry$Sound;" ∈ wsX4_readTell := by decide +kernel
theorem LX4_readTell_31 : Cond.fieldLink RX4 31 "GuessFerry$Reader" "tokens" "LGuessFerry$Tokens;" ∈ wsX4_readTell := by decide +kernel
theorem LX4_readTell_38 : Cond.fieldLink RX4 38 "GuessFerry$Reader" "at" "I" ∈ wsX4_readTell := by decide +kernel
theorem inX4_readTell_X4 : ∀ w ∈ u_ws RX4 TX4 8, w ∈ wsX4_readTell := by decide +kernel
theorem inX4_readTell_X5 : ∀ w ∈ u_ws RX5 TX5 10, w ∈ wsX4_readTell := by decide +kernel
theorem inX4_readTell_X9 : ∀ w ∈ u_ws RX9 TX9 7, w ∈ wsX4_readTell := by decide +kernel
set_option maxHeartbeats 4000000 in
set_option maxRecDepth 100000 in
theorem bkX4_readTell_106 {l : Launch} {dC : Nat → ClassId} {dI : Nat → Nat → Nat} {cB cI cJ cZ cS : ClassId} {a : Nat → Nat} {as : List Value} {s' : KS} (s : KS) (hB : kX4_readTell_106 s = some s') : BlkV l yX4_readTell wsX4_readTell ({ frames := 29, cells := 0, slots := 0, locals := 660 }) cX4_readTell 3 none (dC, dI) (tysA cB cI cJ cZ cS) as 106 (wK cB cI cJ cZ cS a s) [(0, .ref (a 28))] [] (fun u => u = (wK cB cI cJ cZ cS a s')) := by
  intro p e s0 m below meth c A E H locs ls hP hD hS hl
  obtain ⟨C, hr, hlocks, hA, hK, hN⟩ := id E
  obtain ⟨hx, hb, hml, hown, hts⟩ := id C
  unfold kX4_readTell_106 at hB
  refine lv_aload_n hx hb dX4_readTell_106 rfl (lv_at hl 0 rfl) ?_
  refine lv_iconst (v := 1) hx hb dX4_readTell_107 (by decide) ?_
  obtain ⟨s1, hc, hB⟩ := bindP_inv hB
  refine q_govF (va_runV (As := [.int 1]) (rest := []) C (ckX4_fail hc _) (cwV 1 hts gX4_readTell_X4_fail rfl rfl rfl (by decide +kernel) ⟨Nat.le_of_ble_eq_true rfl, Nat.le_of_ble_eq_true rfl⟩) (q_preV hK hP (ci := 4) (q0 := 28) rfl rfl rfl (q_preF hN hK hP hD)) rfl rfl hl.1 rfl (lv_room (Nat.le_of_ble_eq_true rfl)) dX4_readTell_108 ⟨Nat.le_of_ble_eq_true rfl, Nat.le_of_ble_eq_true rfl⟩) hD hS hA (fun w1 H locs hw hP hD hS => ?_)
  subst hw
  exact q_vret C hr hlocks hK hP hD hS (Nat.le_of_ble_eq_true rfl) (Nat.le_of_ble_eq_true rfl) dX4_readTell_111 (by cases hB; rfl)
set_option maxHeartbeats 4000000 in
set_option maxRecDepth 100000 in
theorem bkX4_readTell {l : Launch} {dC : Nat → ClassId} {dI : Nat → Nat → Nat} {cB cI cJ cZ cS : ClassId} {a : Nat → Nat} {as : List Value} {s' : KS} (s : KS) (hB : kX4_readTell s = some s') : BlkV l yX4_readTell wsX4_readTell ({ frames := 29, cells := 0, slots := 0, locals := 660 }) cX4_readTell 3 none (dC, dI) (tysA cB cI cJ cZ cS) as 0 (wK cB cI cJ cZ cS a s) [(0, .ref (a 28))] [] (fun u => u = (wK cB cI cJ cZ cS a s')) := by
  intro p e s0 m below meth c A E H locs ls hP hD hS hl
  obtain ⟨C, hr, hlocks, hA, hK, hN⟩ := id E
  obtain ⟨hx, hb, hml, hown, hts⟩ := id C
  unfold kX4_readTell at hB
  refine lv_aload_n hx hb dX4_readTell_0 rfl (lv_at hl 0 rfl) ?_
  refine q_get (v := .ref (a 30)) C inX4_readTell_X4 hK hP 28 rfl rfl 0 (by decide) rfl LX4_readTell_31 rfl dX4_readTell_1 ?_
  refine q_getN (v := .ref (a 32)) C hN inX4_readTell_X9 hK hP 30 rfl rfl 2 (by decide) rfl nwF_X4_63 rfl dX4_readTell_4 ?_
  refine lv_aload_n hx hb dX4_readTell_7 rfl (lv_at hl 0 rfl) ?_
  refine q_get (v := .int (s.v 15)) C inX4_readTell_X4 hK hP 28 rfl rfl 3 (by decide) rfl LX4_readTell_38 rfl dX4_readTell_8 ?_
  obtain ⟨g1, hB⟩ := guard_inv hB
  refine q_iald (x := ((s.f 32) (Int32.toNatClampNeg (s.v 15)))) C hK hP 32 1 rfl rfl (vpb_in g1) dX4_readTell_11 rfl ?_
  refine lv_istore_n (lv' := [(1, .int ((s.f 32) (Int32.toNatClampNeg (s.v 15)))), (0, .ref (a 28))]) hx hb dX4_readTell_12 rfl hl (by decide) rfl (fun ls hl => ?_)
  refine lv_iload_n hx hb dX4_readTell_13 rfl (lv_at hl 0 rfl) ?_
  refine lv_sipush (v := 258) hx hb dX4_readTell_14 (by decide) ?_
  refine lv_isub hx hb dX4_readTell_17 ?_
  refine lv_istore_n (lv' := [(2, .int (((s.f 32) (Int32.toNatClampNeg (s.v 15))) - 258)), (1, .int ((s.f 32) (Int32.toNatClampNeg (s.v 15)))), (0, .ref (a 28))]) hx hb dX4_readTell_18 rfl hl (by decide) rfl (fun ls hl => ?_)
  refine lv_iload_n hx hb dX4_readTell_19 rfl (lv_at hl 1 rfl) ?_
  refine lv_sipush (v := 256) hx hb dX4_readTell_20 (by decide) ?_
  refine lv_icmp_ne (tgt := 33) hx hb dX4_readTell_23 (by decide) (fun c2 => ?_) (fun c2 => ?_)
  · have hB := if_n hB c2
    refine lv_iload_n hx hb dX4_readTell_33 rfl (lv_at hl 1 rfl) ?_
    refine lv_sipush (v := 257) hx hb dX4_readTell_34 (by decide) ?_
    refine lv_icmp_ne (tgt := 47) hx hb dX4_readTell_37 (by decide) (fun c3 => ?_) (fun c3 => ?_)
    · have hB := if_n hB c3
      refine lv_iload_n hx hb dX4_readTell_47 rfl (lv_at hl 1 rfl) ?_
      refine lv_sipush (v := 262) hx hb dX4_readTell_48 (by decide) ?_
      refine lv_icmp_ne (tgt := 84) hx hb dX4_readTell_51 (by decide) (fun c4 => ?_) (fun c4 => ?_)
      · have hB := if_n hB c4
        refine lv_iload_n hx hb dX4_readTell_84 rfl (lv_at hl 0 rfl) ?_
        refine lv_if_lt (tgt := 106) hx hb dX4_readTell_85 (by decide) (fun c5 => ?_) (fun c5 => ?_)
        · have hB := if_p hB c5
          exact bkX4_readTell_106 _ hB p e s0 m below meth c A E H locs ls hP hD hS (lv_sub hl [2] rfl)
        · have hB := if_n hB c5
          refine lv_iload_n hx hb dX4_readTell_88 rfl (lv_at hl 0 rfl) ?_
          refine lv_iconst (v := 4) hx hb dX4_readTell_89 (by decide) ?_
          refine lv_icmp_ge (tgt := 106) hx hb dX4_readTell_90 (by decide) (fun c6 => ?_) (fun c6 => ?_)
          · have hB := if_p hB c6
            exact bkX4_readTell_106 _ hB p e s0 m below meth c A E H locs ls hP hD hS (lv_sub hl [2] rfl)
          · have hB := if_n hB c6
            refine lv_aload_n hx hb dX4_readTell_93 rfl (lv_at hl 2 rfl) ?_
            refine lv_iload_n hx hb dX4_readTell_94 rfl (lv_at hl 1 rfl) ?_
            obtain ⟨s7, hc, hB⟩ := bindP_inv hB
            refine q_govF (va_runV (As := [.int ((s.f 32) (Int32.toNatClampNeg (s.v 15)))]) (rest := []) C (ckX4_take hc _) (cwV 1 hts gX4_readTell_X4_take rfl rfl rfl (by decide +kernel) ⟨Nat.le_of_ble_eq_true rfl, Nat.le_of_ble_eq_true rfl⟩) (q_preV hK hP (ci := 4) (q0 := 28) rfl rfl rfl (q_preF hN hK hP hD)) rfl rfl hl.1 rfl (lv_room (Nat.le_of_ble_eq_true rfl)) dX4_readTell_95 ⟨Nat.le_of_ble_eq_true rfl, Nat.le_of_ble_eq_true rfl⟩) hD hS hA (fun w1 H locs hw hP hD hS => ?_)
            subst hw
            refine lv_aload_n hx hb dX4_readTell_98 rfl (lv_at hl 2 rfl) ?_
            refine lv_iload_n hx hb dX4_readTell_99 rfl (lv_at hl 0 rfl) ?_
            obtain ⟨s8, hc, hB⟩ := bindP_inv hB
            refine q_govF (va_runV (As := [.int (((s.f 32) (Int32.toNatClampNeg (s.v 15))) - 258)]) (rest := []) C (ckX4_readLaw hc _) (cwV 1 hts gX4_readTell_X4_readLaw rfl rfl rfl (by decide +kernel) ⟨Nat.le_of_ble_eq_true rfl, Nat.le_of_ble_eq_true rfl⟩) (q_preV hK hP (ci := 4) (q0 := 28) rfl rfl rfl (q_preF hN hK hP hD)) rfl rfl hl.1 rfl (lv_room (Nat.le_of_ble_eq_true rfl)) dX4_readTell_100 ⟨Nat.le_of_ble_eq_true rfl, Nat.le_of_ble_eq_true rfl⟩) hD hS hA (fun w1 H locs hw hP hD hS => ?_)
            subst hw
            refine lv_goto (tgt := 111) hx hb dX4_readTell_103 (by decide) ?_
            exact q_vret C hr hlocks hK hP hD hS (Nat.le_of_ble_eq_true rfl) (Nat.le_of_ble_eq_true rfl) dX4_readTell_111 (by cases hB; rfl)
      · have hB := if_p hB c4
        refine lv_aload_n hx hb dX4_readTell_54 rfl (lv_at hl 2 rfl) ?_
        refine lv_sipush (v := 262) hx hb dX4_readTell_55 (by decide) ?_
        obtain ⟨s9, hc, hB⟩ := bindP_inv hB
        refine q_govF (va_runV (As := [.int 262]) (rest := []) C (ckX4_take hc _) (cwV 1 hts gX4_readTell_X4_take rfl rfl rfl (by decide +kernel) ⟨Nat.le_of_ble_eq_true rfl, Nat.le_of_ble_eq_true rfl⟩) (q_preV hK hP (ci := 4) (q0 := 28) rfl rfl rfl (q_preF hN hK hP hD)) rfl rfl hl.1 rfl (lv_room (Nat.le_of_ble_eq_true rfl)) dX4_readTell_58 ⟨Nat.le_of_ble_eq_true rfl, Nat.le_of_ble_eq_true rfl⟩) hD hS hA (fun w1 H locs hw hP hD hS => ?_)
        subst hw
        refine lv_aload_n hx hb dX4_readTell_61 rfl (lv_at hl 2 rfl) ?_
        refine q_get (v := .ref (a 15)) C inX4_readTell_X4 hK hP 28 rfl rfl 1 (by decide) rfl LX4_readTell_12 rfl dX4_readTell_62 ?_
        refine lv_aload_n hx hb dX4_readTell_65 rfl (lv_at hl 2 rfl) ?_
        refine lv_sipush (v := 9999) hx hb dX4_readTell_66 (by decide) ?_
        obtain ⟨q_, s10, hc, hB⟩ := bindI_inv hB
        refine q_goiF (va_runV (As := [.int 9999]) (rest := [.ref (a 15)]) C (ckX4_takeInt hc _) (cwV 1 hts gX4_readTell_X4_takeInt rfl rfl rfl (by decide +kernel) ⟨Nat.le_of_ble_eq_true rfl, Nat.le_of_ble_eq_true rfl⟩) (q_preV hK hP (ci := 4) (q0 := 28) rfl rfl rfl (q_preF hN hK hP hD)) rfl rfl hl.1 rfl (lv_room (Nat.le_of_ble_eq_true rfl)) dX4_readTell_69 ⟨Nat.le_of_ble_eq_true rfl, Nat.le_of_ble_eq_true rfl⟩) hD hS hA (fun r11 w1 H locs hw hP hD hS => ?_)
        obtain ⟨hq_, hw⟩ := hw; subst hw; subst hq_
        obtain ⟨s12, hs13, hB⟩ := letS_inv hB
        refine q_putN (ty := .int) (w2 := (wK cB cI cJ cZ cS a s12)) tyX5 tyX5_ok nmX5 C hN inX4_readTell_X5 hK hP hD hS 15 rfl rfl 9 (by decide) rfl nwF_X4_94 rfl (by decide +kernel) (rfl) rfl (Nat.le_of_ble_eq_true rfl) dX4_readTell_72 (by subst hs13; rfl) (fun H locs hP hD hS => ?_)
        refine lv_aload_n hx hb dX4_readTell_75 rfl (lv_at hl 2 rfl) ?_
        refine lv_bipush (v := 59) hx hb dX4_readTell_76 (by decide) ?_
        obtain ⟨s14, hc, hB⟩ := bindP_inv hB
        refine q_govF (va_runV (As := [.int 59]) (rest := []) C (ckX4_take hc _) (cwV 1 hts gX4_readTell_X4_take rfl rfl rfl (by decide +kernel) ⟨Nat.le_of_ble_eq_true rfl, Nat.le_of_ble_eq_true rfl⟩) (q_preV hK hP (ci := 4) (q0 := 28) rfl rfl rfl (q_preF hN hK hP hD)) rfl rfl hl.1 rfl (lv_room (Nat.le_of_ble_eq_true rfl)) dX4_readTell_78 ⟨Nat.le_of_ble_eq_true rfl, Nat.le_of_ble_eq_true rfl⟩) hD hS hA (fun w1 H locs hw hP hD hS => ?_)
        subst hw
        refine lv_goto (tgt := 111) hx hb dX4_readTell_81 (by decide) ?_
        exact q_vret C hr hlocks hK hP hD hS (Nat.le_of_ble_eq_true rfl) (Nat.le_of_ble_eq_true rfl) dX4_readTell_111 (by cases hB; rfl)
    · have hB := if_p hB c3
      refine lv_aload_n hx hb dX4_readTell_40 rfl (lv_at hl 2 rfl) ?_
      obtain ⟨s15, hc, hB⟩ := bindP_inv hB
      refine q_govF (va_runV (As := []) (rest := []) C (ckX4_readParty hc _) (cwV 0 hts gX4_readTell_X4_readParty rfl rfl rfl (by decide +kernel) ⟨Nat.le_of_ble_eq_true rfl, Nat.le_of_ble_eq_true rfl⟩) (q_preV hK hP (ci := 4) (q0 := 28) rfl rfl rfl (q_preF hN hK hP hD)) rfl rfl hl.1 rfl (lv_room (Nat.le_of_ble_eq_true rfl)) dX4_readTell_41 ⟨Nat.le_of_ble_eq_true rfl, Nat.le_of_ble_eq_true rfl⟩) hD hS hA (fun w1 H locs hw hP hD hS => ?_)
      subst hw
      refine lv_goto (tgt := 111) hx hb dX4_readTell_44 (by decide) ?_
      exact q_vret C hr hlocks hK hP hD hS (Nat.le_of_ble_eq_true rfl) (Nat.le_of_ble_eq_true rfl) dX4_readTell_111 (by cases hB; rfl)
  · have hB := if_p hB c2
    refine lv_aload_n hx hb dX4_readTell_26 rfl (lv_at hl 2 rfl) ?_
    obtain ⟨s16, hc, hB⟩ := bindP_inv hB
    refine q_govF (va_runV (As := []) (rest := []) C (ckX4_readWave hc _) (cwV 0 hts gX4_readTell_X4_readWave rfl rfl rfl (by decide +kernel) ⟨Nat.le_of_ble_eq_true rfl, Nat.le_of_ble_eq_true rfl⟩) (q_preV hK hP (ci := 4) (q0 := 28) rfl rfl rfl (q_preF hN hK hP hD)) rfl rfl hl.1 rfl (lv_room (Nat.le_of_ble_eq_true rfl)) dX4_readTell_27 ⟨Nat.le_of_ble_eq_true rfl, Nat.le_of_ble_eq_true rfl⟩) hD hS hA (fun w1 H locs hw hP hD hS => ?_)
    subst hw
    refine lv_goto (tgt := 111) hx hb dX4_readTell_30 (by decide) ?_
    exact q_vret C hr hlocks hK hP hD hS (Nat.le_of_ble_eq_true rfl) (Nat.le_of_ble_eq_true rfl) dX4_readTell_111 (by cases hB; rfl)
theorem ckX4_readTell {l : Launch} {dC : Nat → ClassId} {dI : Nat → Nat → Nat} {cB cI cJ cZ cS : ClassId} {a : Nat → Nat} {s' : KS} {s : KS} (hB : kX4_readTell s = some s') : CV l yX4_readTell wsX4_readTell ({ frames := 29, cells := 0, slots := 0, locals := 660 }) (dC, dI) (tysA cB cI cJ cZ cS) (wK cB cI cJ cZ cS a s) [.ref (a 28)] (fun u => u = (wK cB cI cJ cZ cS a s')) :=
  CV_of (cc := cX4_readTell) (maxL := 3) (ret := none) (by decide) rfl (Nat.le_of_ble_eq_true rfl) (bkX4_readTell _ hB)
theorem LX4_readTape_12 : Cond.fieldLink RX4 12 "GuessFerry$Reader" "draft" "LGuessFerry$Sound;" ∈ wsX4_readTape := by decide +kernel
theorem LX4_readTape_22 : Cond.fieldLink RX4 22 "GuessFerry$Reader" "faultPlace" "I" ∈ wsX4_readTape := by decide +kernel
theorem LX4_readTape_31 : Cond.fieldLink RX4 31 "GuessFerry$Reader" "tokens" "LGuessFerry$Tokens;" ∈ wsX4_readTape := by decide +kernel
theorem LX4_readTape_38 : Cond.fieldLink RX4 38 "GuessFerry$Reader" "at" "I" ∈ wsX4_readTape := by decide +kernel
theorem LX4_readTape_41 : Cond.fieldLink RX4 41 "GuessFerry$Reader" "fault" "I" ∈ wsX4_readTape := by decide +kernel
theorem LX4_readTape_44 : Cond.fieldLink RX4 44 "GuessFerry$Reader" "laterFault" "I" ∈ wsX4_readTape := by decide +kernel
theorem LX4_readTape_47 : Cond.fieldLink RX4 47 "GuessFerry$Reader" "laterPlace" "I" ∈ wsX4_readTape := by decide +kernel
theorem LX4_readTape_E_X5_addUp : Cond.selects RX5 yX5_addUp yX5_addUp ∈ wsX4_readTape := by decide +kernel
theorem LX4_readTape_E_X5_clear : Cond.selects RX5 yX5_clear yX5_clear ∈ wsX4_readTape := by decide +kernel
theorem LX4_readTape_E_X9_split : Cond.selects RX9 yX9_split yX9_split ∈ wsX4_readTape := by decide +kernel
theorem LX4_readTape_I_X5 : Cond.initialized RX5 ∈ wsX4_readTape := by decide +kernel
theorem LX4_readTape_I_X9 : Cond.initialized RX9 ∈ wsX4_readTape := by decide +kernel
theorem LX4_readTape_N_X5_addUp : Cond.instanceMethod yX5_addUp ∈ wsX4_readTape := by decide +kernel
theorem LX4_readTape_N_X5_clear : Cond.instanceMethod yX5_clear ∈ wsX4_readTape := by decide +kernel
theorem LX4_readTape_N_X9_split : Cond.instanceMethod yX9_split ∈ wsX4_readTape := by decide +kernel
theorem inX4_readTape_X4 : ∀ w ∈ u_ws RX4 TX4 8, w ∈ wsX4_readTape := by decide +kernel
set_option maxHeartbeats 4000000 in
set_option maxRecDepth 100000 in
theorem bkX4_readTape_98 {l : Launch} {dC : Nat → ClassId} {dI : Nat → Nat → Nat} {cB cI cJ cZ cS : ClassId} {ak av : Nat} {a : Nat → Nat} {as : List Value} {r : Int32} {s' : KS} (s : KS) (hB : kX4_readTape_98 s = some (r, s')) : BlkIS ak av l yX4_readTape wsX4_readTape ({ frames := 30, cells := 0, slots := 0, locals := 682 }) cX4_readTape 2 (some .int) (dC, dI) (tysA cB cI cJ cZ cS) as 98 (wK cB cI cJ cZ cS a s) [(0, .ref (a 28))] [] (fun x u => x = r ∧ u = (wK cB cI cJ cZ cS a s')) := by
  intro p e s0 m below meth c A E hX H locs ls hP hD hS hl
  obtain ⟨C, hr, hlocks, hA, hK, hN⟩ := id E
  obtain ⟨hx, hb, hml, hown, hts⟩ := id C
  unfold kX4_readTape_98 at hB
  refine lv_aload_n hx hb dX4_readTape_98 rfl (lv_at hl 0 rfl) ?_
  refine q_get (v := .int (s.v 16)) C inX4_readTape_X4 hK hP 28 rfl rfl 4 (by decide) rfl LX4_readTape_41 rfl dX4_readTape_99 ?_
  refine lv_if_ne (tgt := 112) hx hb dX4_readTape_102 (by decide) (fun c1 => ?_) (fun c1 => ?_)
  · have hB := if_n hB c1
    refine lv_aload_n hx hb dX4_readTape_112 rfl (lv_at hl 0 rfl) ?_
    refine q_get (v := .int (s.v 16)) C inX4_readTape_X4 hK hP 28 rfl rfl 4 (by decide) rfl LX4_readTape_41 rfl dX4_readTape_113 ?_
    exact q_iret C hr hlocks hK hP hD hS (Nat.le_of_ble_eq_true rfl) (Nat.le_of_ble_eq_true rfl) dX4_readTape_116 (by cases hB; exact ⟨rfl, rfl⟩)
  · have hB := if_p hB c1
    refine lv_aload_n hx hb dX4_readTape_105 rfl (lv_at hl 0 rfl) ?_
    refine q_get (v := .ref (a 15)) C inX4_readTape_X4 hK hP 28 rfl rfl 1 (by decide) rfl LX4_readTape_12 rfl dX4_readTape_106 ?_
    obtain ⟨s2, hc, hB⟩ := bindP_inv hB
    refine q_govF (va_runVN (As := []) (rest := []) C (ckX5_addUp hc _) ⟨va_cnB 0 hts gX4_readTape_X5_addUp_n60 rfl rfl rfl (hN _ nwM_X4_60 rfl) (hts _ LX4_readTape_I_X5) (by decide +kernel) ⟨Nat.le_of_ble_eq_true rfl, Nat.le_of_ble_eq_true rfl⟩, hts _ LX4_readTape_N_X5_addUp, hts _ LX4_readTape_E_X5_addUp⟩ (q_preV hK hP (ci := 5) (q0 := 15) rfl rfl rfl (q_preF hN hK hP hD)) rfl rfl hl.1 rfl (lv_room (Nat.le_of_ble_eq_true rfl)) dX4_readTape_109 ⟨Nat.le_of_ble_eq_true rfl, Nat.le_of_ble_eq_true rfl⟩) hD hS hA (fun w1 H locs hw hP hD hS => ?_)
    subst hw
    refine lv_aload_n hx hb dX4_readTape_112 rfl (lv_at hl 0 rfl) ?_
    refine q_get (v := .int (s2.v 16)) C inX4_readTape_X4 hK hP 28 rfl rfl 4 (by decide) rfl LX4_readTape_41 rfl dX4_readTape_113 ?_
    exact q_iret C hr hlocks hK hP hD hS (Nat.le_of_ble_eq_true rfl) (Nat.le_of_ble_eq_true rfl) dX4_readTape_116 (by cases hB; exact ⟨rfl, rfl⟩)
set_option maxHeartbeats 4000000 in
set_option maxRecDepth 100000 in
theorem bkX4_readTape_75 {l : Launch} {dC : Nat → ClassId} {dI : Nat → Nat → Nat} {cB cI cJ cZ cS : ClassId} {ak av : Nat} {a : Nat → Nat} {as : List Value} {r : Int32} {s' : KS} (s : KS) (hB : kX4_readTape_75 s = some (r, s')) : BlkIS ak av l yX4_readTape wsX4_readTape ({ frames := 30, cells := 0, slots := 0, locals := 682 }) cX4_readTape 2 (some .int) (dC, dI) (tysA cB cI cJ cZ cS) as 75 (wK cB cI cJ cZ cS a s) [(0, .ref (a 28))] [] (fun x u => x = r ∧ u = (wK cB cI cJ cZ cS a s')) := by
  intro p e s0 m below meth c A E hX H locs ls hP hD hS hl
  obtain ⟨C, hr, hlocks, hA, hK, hN⟩ := id E
  obtain ⟨hx, hb, hml, hown, hts⟩ := id C
  unfold kX4_readTape_75 at hB
  refine lv_aload_n hx hb dX4_readTape_75 rfl (lv_at hl 0 rfl) ?_
  refine q_get (v := .int (s.v 16)) C inX4_readTape_X4 hK hP 28 rfl rfl 4 (by decide) rfl LX4_readTape_41 rfl dX4_readTape_76 ?_
  refine lv_if_ne (tgt := 98) hx hb dX4_readTape_79 (by decide) (fun c1 => ?_) (fun c1 => ?_)
  · have hB := if_n hB c1
    exact bkX4_readTape_98 _ hB p e s0 m below meth c A E hX H locs ls hP hD hS (lv_sub hl [0] rfl)
  · have hB := if_p hB c1
    refine lv_aload_n hx hb dX4_readTape_82 rfl (lv_at hl 0 rfl) ?_
    refine lv_aload_n hx hb dX4_readTape_83 rfl (lv_at hl 0 rfl) ?_
    refine q_get (v := .int (s.v 18)) C inX4_readTape_X4 hK hP 28 rfl rfl 6 (by decide) rfl LX4_readTape_44 rfl dX4_readTape_84 ?_
    obtain ⟨s2, hs3, hB⟩ := letS_inv hB
    refine q_put (ty := .int) (w2 := (wK cB cI cJ cZ cS a s2)) tyX4 tyX4_ok nmX4 C inX4_readTape_X4 hK hP hD hS 28 rfl rfl 4 (by decide) rfl LX4_readTape_41 rfl (by decide +kernel) (rfl) rfl (Nat.le_of_ble_eq_true rfl) dX4_readTape_87 (by subst hs3; rfl) (fun H locs hP hD hS => ?_)
    refine lv_aload_n hx hb dX4_readTape_90 rfl (lv_at hl 0 rfl) ?_
    refine lv_aload_n hx hb dX4_readTape_91 rfl (lv_at hl 0 rfl) ?_
    refine q_get (v := .int (s2.v 19)) C inX4_readTape_X4 hK hP 28 rfl rfl 7 (by decide) rfl LX4_readTape_47 rfl dX4_readTape_92 ?_
    obtain ⟨s4, hs5, hB⟩ := letS_inv hB
    refine q_put (ty := .int) (w2 := (wK cB cI cJ cZ cS a s4)) tyX4 tyX4_ok nmX4 C inX4_readTape_X4 hK hP hD hS 28 rfl rfl 5 (by decide) rfl LX4_readTape_22 rfl (by decide +kernel) (rfl) rfl (Nat.le_of_ble_eq_true rfl) dX4_readTape_95 (by subst hs5; rfl) (fun H locs hP hD hS => ?_)
    exact bkX4_readTape_98 _ hB p e s0 m below meth c A E hX H locs ls hP hD hS (lv_sub hl [0] rfl)
set_option maxHeartbeats 4000000 in
set_option maxRecDepth 100000 in
theorem bkX4_readTape_41 {l : Launch} {dC : Nat → ClassId} {dI : Nat → Nat → Nat} {cB cI cJ cZ cS : ClassId} {ak av : Nat} {a : Nat → Nat} {as : List Value} {r : Int32} {s' : KS} {k41 : KS → Int32 → Option (Int32 × KS)} (hk41 : ∀ (s : KS) (x1 : Int32), k41 s x1 = some (r, s') → BlkIS ak av l yX4_readTape wsX4_readTape ({ frames := 30, cells := 0, slots := 0, locals := 682 }) cX4_readTape 2 (some .int) (dC, dI) (tysA cB cI cJ cZ cS) as 41 (wK cB cI cJ cZ cS a s) [(0, .ref (a 28)), (1, .int x1)] [] (fun x u => x = r ∧ u = (wK cB cI cJ cZ cS a s'))) (s : KS) (x1 : Int32) (hB : kX4_readTape_41 k41 s x1 = some (r, s')) : BlkIS ak av l yX4_readTape wsX4_readTape ({ frames := 30, cells := 0, slots := 0, locals := 682 }) cX4_readTape 2 (some .int) (dC, dI) (tysA cB cI cJ cZ cS) as 41 (wK cB cI cJ cZ cS a s) [(0, .ref (a 28)), (1, .int x1)] [] (fun x u => x = r ∧ u = (wK cB cI cJ cZ cS a s')) := by
  intro p e s0 m below meth c A E hX H locs ls hP hD hS hl
  obtain ⟨C, hr, hlocks, hA, hK, hN⟩ := id E
  obtain ⟨hx, hb, hml, hown, hts⟩ := id C
  unfold kX4_readTape_41 at hB
  refine lv_iload_n hx hb dX4_readTape_41 rfl (lv_at hl 1 rfl) ?_
  refine lv_sipush (v := 400) hx hb dX4_readTape_42 (by decide) ?_
  refine lv_icmp_gt (tgt := 75) hx hb dX4_readTape_45 (by decide) (fun c1 => ?_) (fun c1 => ?_)
  · have hB := if_p hB c1
    exact bkX4_readTape_75 _ hB p e s0 m below meth c A E hX H locs ls hP hD hS (lv_sub hl [0] rfl)
  · have hB := if_n hB c1
    refine lv_aload_n hx hb dX4_readTape_48 rfl (lv_at hl 0 rfl) ?_
    refine q_get (v := .int (s.v 16)) C inX4_readTape_X4 hK hP 28 rfl rfl 4 (by decide) rfl LX4_readTape_41 rfl dX4_readTape_49 ?_
    refine lv_if_ne (tgt := 75) hx hb dX4_readTape_52 (by decide) (fun c2 => ?_) (fun c2 => ?_)
    · have hB := if_n hB c2
      exact bkX4_readTape_75 _ hB p e s0 m below meth c A E hX H locs ls hP hD hS (lv_sub hl [0] rfl)
    · have hB := if_p hB c2
      refine lv_aload_n hx hb dX4_readTape_55 rfl (lv_at hl 0 rfl) ?_
      refine lv_sipush (v := 302) hx hb dX4_readTape_56 (by decide) ?_
      obtain ⟨q_, s3, hc, hB⟩ := bindI_inv hB
      refine q_goiF (va_runV (As := [.int 302]) (rest := []) C (ckX4_isAt hc _) (cwV 1 hts gX4_readTape_X4_isAt rfl rfl rfl (by decide +kernel) ⟨Nat.le_of_ble_eq_true rfl, Nat.le_of_ble_eq_true rfl⟩) (q_preV hK hP (ci := 4) (q0 := 28) rfl rfl rfl (q_preF hN hK hP hD)) rfl rfl hl.1 rfl (lv_room (Nat.le_of_ble_eq_true rfl)) dX4_readTape_59 ⟨Nat.le_of_ble_eq_true rfl, Nat.le_of_ble_eq_true rfl⟩) hD hS hA (fun r4 w1 H locs hw hP hD hS => ?_)
      obtain ⟨hq_, hw⟩ := hw; subst hw; subst hq_
      refine lv_if_ne (tgt := 75) hx hb dX4_readTape_62 (by decide) (fun c5 => ?_) (fun c5 => ?_)
      · have hB := if_n hB c5
        exact bkX4_readTape_75 _ hB p e s0 m below meth c A E hX H locs ls hP hD hS (lv_sub hl [0] rfl)
      · have hB := if_p hB c5
        refine lv_aload_n hx hb dX4_readTape_65 rfl (lv_at hl 0 rfl) ?_
        obtain ⟨s6, hc, hB⟩ := bindP_inv hB
        refine q_govF (va_runV (As := []) (rest := []) C (ckX4_readTell hc _) (cwV 0 hts gX4_readTape_X4_readTell rfl rfl rfl (by decide +kernel) ⟨Nat.le_of_ble_eq_true rfl, Nat.le_of_ble_eq_true rfl⟩) (q_preV hK hP (ci := 4) (q0 := 28) rfl rfl rfl (q_preF hN hK hP hD)) rfl rfl hl.1 rfl (lv_room (Nat.le_of_ble_eq_true rfl)) dX4_readTape_66 ⟨Nat.le_of_ble_eq_true rfl, Nat.le_of_ble_eq_true rfl⟩) hD hS hA (fun w1 H locs hw hP hD hS => ?_)
        subst hw
        refine lv_iinc (v := (x1 + 1)) (lv' := [(1, .int (x1 + 1)), (0, .ref (a 28))]) hx hb dX4_readTape_69 hl (k := 1) rfl (rfl) (by decide) rfl (fun ls hl => ?_)
        refine lv_goto (tgt := 41) hx hb dX4_readTape_72 (by decide) ?_
        exact hk41 _ _ hB p e s0 m below meth c A E hX H locs ls hP hD hS (lv_sub hl [1, 0] rfl)
theorem bkX4_readTape_41L {l : Launch} {dC : Nat → ClassId} {dI : Nat → Nat → Nat} {cB cI cJ cZ cS : ClassId} {ak av : Nat} {a : Nat → Nat} {as : List Value} {r : Int32} {s' : KS} : ∀ (n : Nat) (s : KS) (x1 : Int32), kX4_readTape_41L n s x1 = some (r, s') → BlkIS ak av l yX4_readTape wsX4_readTape ({ frames := 30, cells := 0, slots := 0, locals := 682 }) cX4_readTape 2 (some .int) (dC, dI) (tysA cB cI cJ cZ cS) as 41 (wK cB cI cJ cZ cS a s) [(0, .ref (a 28)), (1, .int x1)] [] (fun x u => x = r ∧ u = (wK cB cI cJ cZ cS a s')) := by
  intro n
  induction n with
  | zero => intro s x1 hB; exact none_ne hB
  | succ n ih => intro s x1 hB; exact bkX4_readTape_41 ih _ _ hB
set_option maxHeartbeats 4000000 in
set_option maxRecDepth 100000 in
theorem bkX4_readTape {l : Launch} {dC : Nat → ClassId} {dI : Nat → Nat → Nat} {cB cI cJ cZ cS : ClassId} {ak av : Nat} {a : Nat → Nat} {as : List Value} {r : Int32} {s' : KS} (s : KS) (hB : kX4_readTape s = some (r, s')) : BlkIS ak av l yX4_readTape wsX4_readTape ({ frames := 30, cells := 0, slots := 0, locals := 682 }) cX4_readTape 2 (some .int) (dC, dI) (tysA cB cI cJ cZ cS) as 0 (wK cB cI cJ cZ cS a s) [(0, .ref (a 28))] [] (fun x u => x = r ∧ u = (wK cB cI cJ cZ cS a s')) := by
  intro p e s0 m below meth c A E hX H locs ls hP hD hS hl
  obtain ⟨C, hr, hlocks, hA, hK, hN⟩ := id E
  obtain ⟨hx, hb, hml, hown, hts⟩ := id C
  unfold kX4_readTape at hB
  refine lv_aload_n hx hb dX4_readTape_0 rfl (lv_at hl 0 rfl) ?_
  refine q_get (v := .ref (a 15)) C inX4_readTape_X4 hK hP 28 rfl rfl 1 (by decide) rfl LX4_readTape_12 rfl dX4_readTape_1 ?_
  obtain ⟨s1, hc, hB⟩ := bindP_inv hB
  refine q_govF (va_runVN (As := []) (rest := []) C (ckX5_clear hc _) ⟨va_cnB 0 hts gX4_readTape_X5_clear_n35 rfl rfl rfl (hN _ nwM_X4_35 rfl) (hts _ LX4_readTape_I_X5) (by decide +kernel) ⟨Nat.le_of_ble_eq_true rfl, Nat.le_of_ble_eq_true rfl⟩, hts _ LX4_readTape_N_X5_clear, hts _ LX4_readTape_E_X5_clear⟩ (q_preV hK hP (ci := 5) (q0 := 15) rfl rfl rfl (q_preF hN hK hP hD)) rfl rfl hl.1 rfl (lv_room (Nat.le_of_ble_eq_true rfl)) dX4_readTape_4 ⟨Nat.le_of_ble_eq_true rfl, Nat.le_of_ble_eq_true rfl⟩) hD hS hA (fun w1 H locs hw hP hD hS => ?_)
  subst hw
  refine lv_aload_n hx hb dX4_readTape_7 rfl (lv_at hl 0 rfl) ?_
  refine lv_iconst (v := 0) hx hb dX4_readTape_8 (by decide) ?_
  obtain ⟨s2, hs3, hB⟩ := letS_inv hB
  refine q_put (ty := .int) (w2 := (wK cB cI cJ cZ cS a s2)) tyX4 tyX4_ok nmX4 C inX4_readTape_X4 hK hP hD hS 28 rfl rfl 3 (by decide) rfl LX4_readTape_38 rfl (by decide +kernel) (rfl) rfl (Nat.le_of_ble_eq_true rfl) dX4_readTape_9 (by subst hs3; rfl) (fun H locs hP hD hS => ?_)
  refine lv_aload_n hx hb dX4_readTape_12 rfl (lv_at hl 0 rfl) ?_
  refine lv_iconst (v := 0) hx hb dX4_readTape_13 (by decide) ?_
  obtain ⟨s4, hs5, hB⟩ := letS_inv hB
  refine q_put (ty := .int) (w2 := (wK cB cI cJ cZ cS a s4)) tyX4 tyX4_ok nmX4 C inX4_readTape_X4 hK hP hD hS 28 rfl rfl 4 (by decide) rfl LX4_readTape_41 rfl (by decide +kernel) (rfl) rfl (Nat.le_of_ble_eq_true rfl) dX4_readTape_14 (by subst hs5; rfl) (fun H locs hP hD hS => ?_)
  refine lv_aload_n hx hb dX4_readTape_17 rfl (lv_at hl 0 rfl) ?_
  refine lv_iconst (v := (-1)) hx hb dX4_readTape_18 (by decide) ?_
  obtain ⟨s6, hs7, hB⟩ := letS_inv hB
  refine q_put (ty := .int) (w2 := (wK cB cI cJ cZ cS a s6)) tyX4 tyX4_ok nmX4 C inX4_readTape_X4 hK hP hD hS 28 rfl rfl 5 (by decide) rfl LX4_readTape_22 rfl (by decide +kernel) (rfl) rfl (Nat.le_of_ble_eq_true rfl) dX4_readTape_19 (by subst hs7; rfl) (fun H locs hP hD hS => ?_)
  refine lv_aload_n hx hb dX4_readTape_22 rfl (lv_at hl 0 rfl) ?_
  refine lv_iconst (v := 0) hx hb dX4_readTape_23 (by decide) ?_
  obtain ⟨s8, hs9, hB⟩ := letS_inv hB
  refine q_put (ty := .int) (w2 := (wK cB cI cJ cZ cS a s8)) tyX4 tyX4_ok nmX4 C inX4_readTape_X4 hK hP hD hS 28 rfl rfl 6 (by decide) rfl LX4_readTape_44 rfl (by decide +kernel) (rfl) rfl (Nat.le_of_ble_eq_true rfl) dX4_readTape_24 (by subst hs9; rfl) (fun H locs hP hD hS => ?_)
  refine lv_aload_n hx hb dX4_readTape_27 rfl (lv_at hl 0 rfl) ?_
  refine lv_iconst (v := (-1)) hx hb dX4_readTape_28 (by decide) ?_
  obtain ⟨s10, hs11, hB⟩ := letS_inv hB
  refine q_put (ty := .int) (w2 := (wK cB cI cJ cZ cS a s10)) tyX4 tyX4_ok nmX4 C inX4_readTape_X4 hK hP hD hS 28 rfl rfl 7 (by decide) rfl LX4_readTape_47 rfl (by decide +kernel) (rfl) rfl (Nat.le_of_ble_eq_true rfl) dX4_readTape_29 (by subst hs11; rfl) (fun H locs hP hD hS => ?_)
  refine lv_aload_n hx hb dX4_readTape_32 rfl (lv_at hl 0 rfl) ?_
  refine q_get (v := .ref (a 30)) C inX4_readTape_X4 hK hP 28 rfl rfl 0 (by decide) rfl LX4_readTape_31 rfl dX4_readTape_33 ?_
  obtain ⟨s12, hc, hB⟩ := bindP_inv hB
  refine q_govF (va_runVN (As := []) (rest := []) C (ckX9_split hc _) ⟨va_cnB 0 hts gX4_readTape_X9_split_n50 rfl rfl rfl (hN _ nwM_X4_50 rfl) (hts _ LX4_readTape_I_X9) (by decide +kernel) ⟨Nat.le_of_ble_eq_true rfl, Nat.le_of_ble_eq_true rfl⟩, hts _ LX4_readTape_N_X9_split, hts _ LX4_readTape_E_X9_split⟩ (q_preV hK hP (ci := 9) (q0 := 30) rfl rfl rfl (q_preSF hN hK hP hD hS hA hX)) rfl rfl hl.1 rfl (lv_room (Nat.le_of_ble_eq_true rfl)) dX4_readTape_36 ⟨Nat.le_of_ble_eq_true rfl, Nat.le_of_ble_eq_true rfl⟩) hD hS hA (fun w1 H locs hw hP hD hS => ?_)
  subst hw
  refine lv_iconst (v := 0) hx hb dX4_readTape_39 (by decide) ?_
  refine lv_istore_n (lv' := [(1, .int 0), (0, .ref (a 28))]) hx hb dX4_readTape_40 rfl hl (by decide) rfl (fun ls hl => ?_)
  exact bkX4_readTape_41L fu _ _ hB p e s0 m below meth c A E hX H locs ls hP hD hS (lv_sub hl [1, 0] rfl)
theorem ckX4_readTape {l : Launch} {dC : Nat → ClassId} {dI : Nat → Nat → Nat} {cB cI cJ cZ cS : ClassId} {ak av : Nat} {a : Nat → Nat} {r : Int32} {s' : KS} {s : KS} (hB : kX4_readTape s = some (r, s')) : CIS ak av l yX4_readTape wsX4_readTape ({ frames := 30, cells := 0, slots := 0, locals := 682 }) (dC, dI) (tysA cB cI cJ cZ cS) (wK cB cI cJ cZ cS a s) [.ref (a 28)] (fun x u => x = r ∧ u = (wK cB cI cJ cZ cS a s')) :=
  CIS_of (cc := cX4_readTape) (maxL := 2) (ret := (some .int)) (by decide) rfl (Nat.le_of_ble_eq_true rfl) (bkX4_readTape _ hB)
theorem LX10_read_10 : Cond.fieldLink RX10 10 "GuessFerry" "tape" "LGuessFerry$Tape;" ∈ wsX10_read := by decide +kernel
theorem LX10_read_19 : Cond.fieldLink RX10 19 "GuessFerry" "sound" "LGuessFerry$Sound;" ∈ wsX10_read := by decide +kernel
theorem LX10_read_28 : Cond.fieldLink RX10 28 "GuessFerry" "reader" "LGuessFerry$Reader;" ∈ wsX10_read := by decide +kernel
theorem LX10_read_35 : Cond.fieldLink RX10 35 "GuessFerry" "now" "LGuessFerry$Standing;" ∈ wsX10_read := by decide +kernel
theorem LX10_read_45 : Cond.fieldLink RX10 45 "GuessFerry" "past" "LGuessFerry$Past;" ∈ wsX10_read := by decide +kernel
theorem LX10_read_70 : Cond.fieldLink RX10 70 "GuessFerry" "tellers" "LGuessFerry$Tellers;" ∈ wsX10_read := by decide +kernel
theorem LX10_read_E_X3_forgetAll : Cond.selects RX3 yX3_forgetAll yX3_forgetAll ∈ wsX10_read := by decide +kernel
theorem LX10_read_E_X4_readTape : Cond.selects RX4 yX4_readTape yX4_readTape ∈ wsX10_read := by decide +kernel
theorem LX10_read_E_X5_copyFrom : Cond.selects RX5 yX5_copyFrom yX5_copyFrom ∈ wsX10_read := by decide +kernel
theorem LX10_read_E_X6_startOver : Cond.selects RX6 yX6_startOver yX6_startOver ∈ wsX10_read := by decide +kernel
theorem LX10_read_I_X3 : Cond.initialized RX3 ∈ wsX10_read := by decide +kernel
theorem LX10_read_I_X4 : Cond.initialized RX4 ∈ wsX10_read := by decide +kernel
theorem LX10_read_I_X5 : Cond.initialized RX5 ∈ wsX10_read := by decide +kernel
theorem LX10_read_I_X6 : Cond.initialized RX6 ∈ wsX10_read := by decide +kernel
theorem LX10_read_N_X3_forgetAll : Cond.instanceMethod yX3_forgetAll ∈ wsX10_read := by decide +kernel
theorem LX10_read_N_X4_readTape : Cond.instanceMethod yX4_readTape ∈ wsX10_read := by decide +kernel
theorem LX10_read_N_X5_copyFrom : Cond.instanceMethod yX5_copyFrom ∈ wsX10_read := by decide +kernel
theorem LX10_read_N_X6_startOver : Cond.instanceMethod yX6_startOver ∈ wsX10_read := by decide +kernel
theorem inX10_read_X10 : ∀ w ∈ u_ws RX10 TX10 9, w ∈ wsX10_read := by decide +kernel
theorem inX10_read_X4 : ∀ w ∈ u_ws RX4 TX4 8, w ∈ wsX10_read := by decide +kernel
theorem inX10_read_X7 : ∀ w ∈ u_ws RX7 TX7 2, w ∈ wsX10_read := by decide +kernel
theorem inX10_read_X8 : ∀ w ∈ u_ws RX8 TX8 8, w ∈ wsX10_read := by decide +kernel
set_option maxHeartbeats 4000000 in
set_option maxRecDepth 100000 in
theorem bkX10_read {l : Launch} {dC : Nat → ClassId} {dI : Nat → Nat → Nat} {cB cI cJ cZ cS : ClassId} {ak av : Nat} {a b b2 c0 : Nat → Nat} {rg sl : Nat → Option Nat} {as : List Value} {r : Int32} {s' : XS} (s : XS) (hB : kX10_read s = some (r, s')) : BlkIS ak av l yX10_read wsX10_read ({ frames := 31, cells := 0, slots := 0, locals := 703 }) cX10_read 2 (some .int) (dC, dI) (tysA cB cI cJ cZ cS) as 0 (wX cB cI cJ cZ cS a b b2 c0 rg sl s) [(0, .ref (c0 0))] [] (fun x u => x = r ∧ u = (wX cB cI cJ cZ cS a b b2 c0 rg sl s')) := by
  intro p e s0 m below meth c A E hX H locs ls hP hD hS hl
  obtain ⟨C, hr, hlocks, hA, hK, hN⟩ := id E
  obtain ⟨hx, hb, hml, hown, hts⟩ := id C
  unfold kX10_read at hB
  refine lv_aload_n hx hb dX10_read_0 rfl (lv_at hl 0 rfl) ?_
  refine q_get (v := .ref (a 28)) C inX10_read_X10 hK hP 0 rfl rfl 2 (by decide) rfl LX10_read_28 rfl dX10_read_1 ?_
  obtain ⟨q_, s1, hc, hB⟩ := bindI_inv hB
  refine q_goi (wr := ((wG cZ cS a b b2 c0 rg sl s.g) ++ (wD cI b2 s.t) ++ (wD cI b s.n))) (va_runVN (As := []) (rest := []) C (ckX4_readTape hc _) ⟨va_cnB 0 hts gX10_read_X4_readTape_n89 rfl rfl rfl (hN _ nwM_X10_89 rfl) (hts _ LX10_read_I_X4) (by decide +kernel) ⟨Nat.le_of_ble_eq_true rfl, Nat.le_of_ble_eq_true rfl⟩, hts _ LX10_read_N_X4_readTape, hts _ LX10_read_E_X4_readTape⟩ (q_preV hK hP (ci := 4) (q0 := 45) rfl rfl rfl (q_preS hN hK hP hD hS hA hX [17, 18, 19, 20, 21, 22, 23, 24, 25, 26, 27, 28, 29, 30, 31, 32, 33, 34, 35, 36, 37, 38, 39, 40, 41, 42, 43, 44, 45, 46, 47, 48, 49, 50, 51, 52, 53, 54, 55, 56, 57, 58, 59, 60, 61, 62, 63] rfl (by decide))) rfl rfl hl.1 rfl (lv_room (Nat.le_of_ble_eq_true rfl)) dX10_read_4 ⟨Nat.le_of_ble_eq_true rfl, Nat.le_of_ble_eq_true rfl⟩) hP hD hS hA [17, 18, 19, 20, 21, 22, 23, 24, 25, 26, 27, 28, 29, 30, 31, 32, 33, 34, 35, 36, 37, 38, 39, 40, 41, 42, 43, 44, 45, 46, 47, 48, 49, 50, 51, 52, 53, 54, 55, 56, 57, 58, 59, 60, 61, 62, 63] [0, 1, 2, 3, 4, 5, 6, 7, 8, 9, 10, 11, 12, 13, 14, 15, 16] rfl rfl (by decide) (by decide) (fun r2 w1 H locs hw hP hD hS => ?_)
  obtain ⟨hq_, hw⟩ := hw; subst hw; subst hq_
  obtain ⟨s3, hs4, hB⟩ := letS_inv hB
  have hP : va_P (dC, dI) vwCl (wX cB cI cJ cZ cS a b b2 c0 rg sl s3) H := by subst hs4; exact hP
  have hD : va_D A (wX cB cI cJ cZ cS a b b2 c0 rg sl s3) := by subst hs4; exact hD
  refine lv_istore_n (lv' := [(1, .int r2), (0, .ref (c0 0))]) hx hb dX10_read_7 rfl hl (by decide) rfl (fun ls hl => ?_)
  refine lv_aload_n hx hb dX10_read_8 rfl (lv_at hl 1 rfl) ?_
  refine q_get (v := .ref (a 0)) C inX10_read_X10 hK hP 0 rfl rfl 0 (by decide) rfl LX10_read_10 rfl dX10_read_9 ?_
  refine lv_iconst (v := 0) hx hb dX10_read_12 (by decide) ?_
  obtain ⟨s5, hs6, hB⟩ := letS_inv hB
  refine q_putN (ty := .int) (w2 := (wX cB cI cJ cZ cS a b b2 c0 rg sl s5)) tyX7 tyX7_ok nmX7 C hN inX10_read_X7 hK hP hD hS 17 rfl rfl 1 (by decide) rfl nwF_X10_85 rfl (by decide +kernel) (rfl) rfl (Nat.le_of_ble_eq_true rfl) dX10_read_13 (by subst hs6; rfl) (fun H locs hP hD hS => ?_)
  refine lv_iload_n hx hb dX10_read_16 rfl (lv_at hl 0 rfl) ?_
  refine lv_if_ne (tgt := 56) hx hb dX10_read_17 (by decide) (fun c7 => ?_) (fun c7 => ?_)
  · have hB := if_n hB c7
    refine lv_iload_n hx hb dX10_read_56 rfl (lv_at hl 0 rfl) ?_
    exact q_iret C hr hlocks hK hP hD hS (Nat.le_of_ble_eq_true rfl) (Nat.le_of_ble_eq_true rfl) dX10_read_57 (by cases hB; exact ⟨rfl, rfl⟩)
  · have hB := if_p hB c7
    refine lv_aload_n hx hb dX10_read_20 rfl (lv_at hl 1 rfl) ?_
    refine q_get (v := .ref (a 2)) C inX10_read_X10 hK hP 0 rfl rfl 1 (by decide) rfl LX10_read_19 rfl dX10_read_21 ?_
    refine lv_aload_n hx hb dX10_read_24 rfl (lv_at hl 1 rfl) ?_
    refine q_get (v := .ref (a 28)) C inX10_read_X10 hK hP 0 rfl rfl 2 (by decide) rfl LX10_read_28 rfl dX10_read_25 ?_
    refine q_getN (v := .ref (a 15)) C hN inX10_read_X4 hK hP 45 rfl rfl 1 (by decide) rfl nwF_X10_93 rfl dX10_read_28 ?_
    obtain ⟨s8, hc, hB⟩ := bindP_inv hB
    refine q_gov (wr := ((wG cZ cS a b b2 c0 rg sl s5.g) ++ (wD cI b2 s5.t) ++ (wD cI b s5.n))) (va_runVN (As := [.ref (a 15)]) (rest := []) C (ckX5_copyFrom hc _) ⟨va_cnB 1 hts gX10_read_X5_copyFrom_n96 rfl rfl rfl (hN _ nwM_X10_96 rfl) (hts _ LX10_read_I_X5) (by decide +kernel) ⟨Nat.le_of_ble_eq_true rfl, Nat.le_of_ble_eq_true rfl⟩, hts _ LX10_read_N_X5_copyFrom, hts _ LX10_read_E_X5_copyFrom⟩ (q_preV hK hP (ci := 5) (q0 := 19) rfl rfl rfl (q_pre hN hK hP hD [17, 18, 19, 20, 21, 22, 23, 24, 25, 26, 27, 28, 29, 30, 31, 32, 33, 34, 35, 36, 37, 38, 39, 40, 41, 42, 43, 44, 45, 46, 47, 48, 49, 50, 51, 52, 53, 54, 55, 56, 57, 58, 59, 60, 61, 62, 63] rfl (by decide))) rfl rfl hl.1 rfl (lv_room (Nat.le_of_ble_eq_true rfl)) dX10_read_31 ⟨Nat.le_of_ble_eq_true rfl, Nat.le_of_ble_eq_true rfl⟩) hP hD hS hA [17, 18, 19, 20, 21, 22, 23, 24, 25, 26, 27, 28, 29, 30, 31, 32, 33, 34, 35, 36, 37, 38, 39, 40, 41, 42, 43, 44, 45, 46, 47, 48, 49, 50, 51, 52, 53, 54, 55, 56, 57, 58, 59, 60, 61, 62, 63] [0, 1, 2, 3, 4, 5, 6, 7, 8, 9, 10, 11, 12, 13, 14, 15, 16] rfl rfl (by decide) (by decide) (fun w1 H locs hw hP hD hS => ?_)
    subst hw
    obtain ⟨s9, hs10, hB⟩ := letS_inv hB
    have hP : va_P (dC, dI) vwCl (wX cB cI cJ cZ cS a b b2 c0 rg sl s9) H := by subst hs10; exact hP
    have hD : va_D A (wX cB cI cJ cZ cS a b b2 c0 rg sl s9) := by subst hs10; exact hD
    refine lv_aload_n hx hb dX10_read_34 rfl (lv_at hl 1 rfl) ?_
    refine q_get (v := .ref (b 0)) C inX10_read_X10 hK hP 0 rfl rfl 3 (by decide) rfl LX10_read_35 rfl dX10_read_35 ?_
    obtain ⟨s11, hc, hB⟩ := bindP_inv hB
    refine q_gov (wr := ((wG cZ cS a b b2 c0 rg sl s9.g) ++ (wD cI b2 s9.t) ++ (wK cB cI cJ cZ cS a s9.k))) (va_runVN (As := []) (rest := []) C (ckX6_startOver hc _) ⟨va_cnB 0 hts gX10_read_X6_startOver_n74 rfl rfl rfl (hN _ nwM_X10_74 rfl) (hts _ LX10_read_I_X6) (by decide +kernel) ⟨Nat.le_of_ble_eq_true rfl, Nat.le_of_ble_eq_true rfl⟩, hts _ LX10_read_N_X6_startOver, hts _ LX10_read_E_X6_startOver⟩ (q_preV hK hP (ci := 6) (q0 := 11) rfl rfl rfl (q_pre hN hK hP hD [11, 12, 13, 14, 15, 16] rfl (by decide))) rfl rfl hl.1 rfl (lv_room (Nat.le_of_ble_eq_true rfl)) dX10_read_38 ⟨Nat.le_of_ble_eq_true rfl, Nat.le_of_ble_eq_true rfl⟩) hP hD hS hA [11, 12, 13, 14, 15, 16] [0, 1, 2, 3, 4, 5, 6, 7, 8, 9, 10, 17, 18, 19, 20, 21, 22, 23, 24, 25, 26, 27, 28, 29, 30, 31, 32, 33, 34, 35, 36, 37, 38, 39, 40, 41, 42, 43, 44, 45, 46, 47, 48, 49, 50, 51, 52, 53, 54, 55, 56, 57, 58, 59, 60, 61, 62, 63] rfl rfl (by decide) (by decide) (fun w1 H locs hw hP hD hS => ?_)
    subst hw
    obtain ⟨s12, hs13, hB⟩ := letS_inv hB
    have hP : va_P (dC, dI) vwCl (wX cB cI cJ cZ cS a b b2 c0 rg sl s12) H := by subst hs13; exact hP.sub [0, 1, 2, 3, 4, 5, 6, 7, 8, 9, 10, 58, 59, 60, 61, 62, 63, 11, 12, 13, 14, 15, 16, 17, 18, 19, 20, 21, 22, 23, 24, 25, 26, 27, 28, 29, 30, 31, 32, 33, 34, 35, 36, 37, 38, 39, 40, 41, 42, 43, 44, 45, 46, 47, 48, 49, 50, 51, 52, 53, 54, 55, 56, 57] rfl
    have hD : va_D A (wX cB cI cJ cZ cS a b b2 c0 rg sl s12) := by subst hs13; exact hD.sub [0, 1, 2, 3, 4, 5, 6, 7, 8, 9, 10, 58, 59, 60, 61, 62, 63, 11, 12, 13, 14, 15, 16, 17, 18, 19, 20, 21, 22, 23, 24, 25, 26, 27, 28, 29, 30, 31, 32, 33, 34, 35, 36, 37, 38, 39, 40, 41, 42, 43, 44, 45, 46, 47, 48, 49, 50, 51, 52, 53, 54, 55, 56, 57] (by decide) rfl
    refine lv_aload_n hx hb dX10_read_41 rfl (lv_at hl 1 rfl) ?_
    refine q_get (v := .ref (c0 1)) C inX10_read_X10 hK hP 0 rfl rfl 5 (by decide) rfl LX10_read_45 rfl dX10_read_42 ?_
    obtain ⟨s14, hc, hB⟩ := bindP_inv hB
    refine q_gov (wr := ((wD cI b2 s12.t) ++ (wD cI b s12.n) ++ (wK cB cI cJ cZ cS a s12.k))) (va_runVN (As := []) (rest := []) C (ckX3_forgetAll hc _) ⟨va_cnB 0 hts gX10_read_X3_forgetAll_n99 rfl rfl rfl (hN _ nwM_X10_99 rfl) (hts _ LX10_read_I_X3) (by decide +kernel) ⟨Nat.le_of_ble_eq_true rfl, Nat.le_of_ble_eq_true rfl⟩, hts _ LX10_read_N_X3_forgetAll, hts _ LX10_read_E_X3_forgetAll⟩ (q_preV hK hP (ci := 3) (q0 := 1) rfl rfl rfl (q_pre hN hK hP hD [0, 1, 2, 3, 4] rfl (by decide))) rfl rfl hl.1 rfl (lv_room (Nat.le_of_ble_eq_true rfl)) dX10_read_45 ⟨Nat.le_of_ble_eq_true rfl, Nat.le_of_ble_eq_true rfl⟩) hP hD hS hA [0, 1, 2, 3, 4] [5, 6, 7, 8, 9, 10, 11, 12, 13, 14, 15, 16, 17, 18, 19, 20, 21, 22, 23, 24, 25, 26, 27, 28, 29, 30, 31, 32, 33, 34, 35, 36, 37, 38, 39, 40, 41, 42, 43, 44, 45, 46, 47, 48, 49, 50, 51, 52, 53, 54, 55, 56, 57, 58, 59, 60, 61, 62, 63] rfl rfl (by decide) (by decide) (fun w1 H locs hw hP hD hS => ?_)
    subst hw
    obtain ⟨s15, hs16, hB⟩ := letS_inv hB
    have hP : va_P (dC, dI) vwCl (wX cB cI cJ cZ cS a b b2 c0 rg sl s15) H := by subst hs16; exact hP.sub [59, 60, 61, 62, 63, 0, 1, 2, 3, 4, 5, 6, 7, 8, 9, 10, 11, 12, 13, 14, 15, 16, 17, 18, 19, 20, 21, 22, 23, 24, 25, 26, 27, 28, 29, 30, 31, 32, 33, 34, 35, 36, 37, 38, 39, 40, 41, 42, 43, 44, 45, 46, 47, 48, 49, 50, 51, 52, 53, 54, 55, 56, 57, 58] rfl
    have hD : va_D A (wX cB cI cJ cZ cS a b b2 c0 rg sl s15) := by subst hs16; exact hD.sub [59, 60, 61, 62, 63, 0, 1, 2, 3, 4, 5, 6, 7, 8, 9, 10, 11, 12, 13, 14, 15, 16, 17, 18, 19, 20, 21, 22, 23, 24, 25, 26, 27, 28, 29, 30, 31, 32, 33, 34, 35, 36, 37, 38, 39, 40, 41, 42, 43, 44, 45, 46, 47, 48, 49, 50, 51, 52, 53, 54, 55, 56, 57, 58] (by decide) rfl
    refine lv_aload_n hx hb dX10_read_48 rfl (lv_at hl 1 rfl) ?_
    refine q_get (v := .ref (a 41)) C inX10_read_X10 hK hP 0 rfl rfl 8 (by decide) rfl LX10_read_70 rfl dX10_read_49 ?_
    refine lv_iconst (v := 0) hx hb dX10_read_52 (by decide) ?_
    obtain ⟨s17, hs18, hB⟩ := letS_inv hB
    refine q_putN (ty := .int) (w2 := (wX cB cI cJ cZ cS a b b2 c0 rg sl s17)) tyX8 tyX8_ok nmX8 C hN inX10_read_X8 hK hP hD hS 58 rfl rfl 7 (by decide) rfl nwF_X10_102 rfl (by decide +kernel) (rfl) rfl (Nat.le_of_ble_eq_true rfl) dX10_read_53 (by subst hs18; rfl) (fun H locs hP hD hS => ?_)
    refine lv_iload_n hx hb dX10_read_56 rfl (lv_at hl 0 rfl) ?_
    exact q_iret C hr hlocks hK hP hD hS (Nat.le_of_ble_eq_true rfl) (Nat.le_of_ble_eq_true rfl) dX10_read_57 (by cases hB; exact ⟨rfl, rfl⟩)
theorem ckX10_read {l : Launch} {dC : Nat → ClassId} {dI : Nat → Nat → Nat} {cB cI cJ cZ cS : ClassId} {ak av : Nat} {a b b2 c0 : Nat → Nat} {rg sl : Nat → Option Nat} {r : Int32} {s' : XS} {s : XS} (hB : kX10_read s = some (r, s')) : CIS ak av l yX10_read wsX10_read ({ frames := 31, cells := 0, slots := 0, locals := 703 }) (dC, dI) (tysA cB cI cJ cZ cS) (wX cB cI cJ cZ cS a b b2 c0 rg sl s) [.ref (c0 0)] (fun x u => x = r ∧ u = (wX cB cI cJ cZ cS a b b2 c0 rg sl s')) :=
  CIS_of (cc := cX10_read) (maxL := 2) (ret := (some .int)) (by decide) rfl (Nat.le_of_ble_eq_true rfl) (bkX10_read _ hB)
