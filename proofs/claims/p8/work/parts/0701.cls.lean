theorem dX4_fail_0 : decode cX4_fail 0 = .ok (.aload_n 0, 1) := dc1_42 (by decide +kernel)
theorem dX4_fail_1 : decode cX4_fail 1 = .ok (.getfield 41, 3) := dcw_180 (by decide +kernel)
theorem dX4_fail_4 : decode cX4_fail 4 = .ok (.ifCond .ne 24, 3) := dcs_154 (n := 24) (by decide +kernel)
theorem dX4_fail_7 : decode cX4_fail 7 = .ok (.aload_n 0, 1) := dc1_42 (by decide +kernel)
theorem dX4_fail_8 : decode cX4_fail 8 = .ok (.iload_n 1, 1) := dc1_27 (by decide +kernel)
theorem dX4_fail_9 : decode cX4_fail 9 = .ok (.putfield 41, 3) := dcw_181 (by decide +kernel)
theorem dX4_fail_12 : decode cX4_fail 12 = .ok (.aload_n 0, 1) := dc1_42 (by decide +kernel)
theorem dX4_fail_13 : decode cX4_fail 13 = .ok (.aload_n 0, 1) := dc1_42 (by decide +kernel)
theorem dX4_fail_14 : decode cX4_fail 14 = .ok (.getfield 31, 3) := dcw_180 (by decide +kernel)
theorem dX4_fail_17 : decode cX4_fail 17 = .ok (.getfield 67, 3) := dcw_180 (by decide +kernel)
theorem dX4_fail_20 : decode cX4_fail 20 = .ok (.aload_n 0, 1) := dc1_42 (by decide +kernel)
theorem dX4_fail_21 : decode cX4_fail 21 = .ok (.getfield 38, 3) := dcw_180 (by decide +kernel)
theorem dX4_fail_24 : decode cX4_fail 24 = .ok (.iaload, 1) := dc1_46 (by decide +kernel)
theorem dX4_fail_25 : decode cX4_fail 25 = .ok (.putfield 22, 3) := dcw_181 (by decide +kernel)
theorem dX4_fail_28 : decode cX4_fail 28 = .ok (.return_, 1) := dc1_177 (by decide +kernel)
theorem dX4_failLater_0 : decode cX4_failLater 0 = .ok (.aload_n 0, 1) := dc1_42 (by decide +kernel)
theorem dX4_failLater_1 : decode cX4_failLater 1 = .ok (.getfield 44, 3) := dcw_180 (by decide +kernel)
theorem dX4_failLater_4 : decode cX4_failLater 4 = .ok (.ifCond .ne 13, 3) := dcs_154 (n := 13) (by decide +kernel)
theorem dX4_failLater_7 : decode cX4_failLater 7 = .ok (.aload_n 0, 1) := dc1_42 (by decide +kernel)
theorem dX4_failLater_8 : decode cX4_failLater 8 = .ok (.iload_n 1, 1) := dc1_27 (by decide +kernel)
theorem dX4_failLater_9 : decode cX4_failLater 9 = .ok (.putfield 44, 3) := dcw_181 (by decide +kernel)
theorem dX4_failLater_12 : decode cX4_failLater 12 = .ok (.aload_n 0, 1) := dc1_42 (by decide +kernel)
theorem dX4_failLater_13 : decode cX4_failLater 13 = .ok (.iload_n 2, 1) := dc1_28 (by decide +kernel)
theorem dX4_failLater_14 : decode cX4_failLater 14 = .ok (.putfield 47, 3) := dcw_181 (by decide +kernel)
theorem dX4_failLater_17 : decode cX4_failLater 17 = .ok (.return_, 1) := dc1_177 (by decide +kernel)
theorem ggX4_take_X4_isAt : GoodIn wsX4_take wsX4_isAt := gi_sub (fun w h => List.mem_cons_of_mem _ (List.mem_append_left _ (List.mem_append_left _ (List.mem_append_right _ (List.mem_append_left _ h))))) gd_wsX4_isAt
set_option maxRecDepth 20000 in
theorem gX4_take_X4_isAt : GoodIn wsX4_take (wsV RX4 53 RX4 yX4_isAt wsX4_isAt) := goodIn_app (goodIn_r _ [2, 3, 4, 5] (by decide +kernel) (by decide +kernel)) ggX4_take_X4_isAt
theorem ggX4_take_X4_fail : GoodIn wsX4_take wsX4_fail := gi_sub (fun w h => List.mem_cons_of_mem _ (List.mem_append_left _ (List.mem_append_left _ (List.mem_append_right _ (List.mem_append_right _ h))))) gd_wsX4_fail
set_option maxRecDepth 20000 in
theorem gX4_take_X4_fail : GoodIn wsX4_take (wsV RX4 70 RX4 yX4_fail wsX4_fail) := goodIn_app (goodIn_r _ [6, 7, 8, 5] (by decide +kernel) (by decide +kernel)) ggX4_take_X4_fail
theorem dX4_take_0 : decode cX4_take 0 = .ok (.aload_n 0, 1) := dc1_42 (by decide +kernel)
theorem dX4_take_1 : decode cX4_take 1 = .ok (.iload_n 1, 1) := dc1_27 (by decide +kernel)
theorem dX4_take_2 : decode cX4_take 2 = .ok (.invokevirtual 53, 3) := dcw_182 (by decide +kernel)
theorem dX4_take_5 : decode cX4_take 5 = .ok (.ifCond .ne 11, 3) := dcs_154 (n := 11) (by decide +kernel)
theorem dX4_take_8 : decode cX4_take 8 = .ok (.aload_n 0, 1) := dc1_42 (by decide +kernel)
theorem dX4_take_9 : decode cX4_take 9 = .ok (.iconst 1, 1) := dc1_4 (by decide +kernel)
theorem dX4_take_10 : decode cX4_take 10 = .ok (.invokevirtual 70, 3) := dcw_182 (by decide +kernel)
theorem dX4_take_13 : decode cX4_take 13 = .ok (.goto 31, 3) := dcs_167 (n := 31) (by decide +kernel)
theorem dX4_take_16 : decode cX4_take 16 = .ok (.aload_n 0, 1) := dc1_42 (by decide +kernel)
theorem dX4_take_17 : decode cX4_take 17 = .ok (.getfield 38, 3) := dcw_180 (by decide +kernel)
theorem dX4_take_20 : decode cX4_take 20 = .ok (.sipush 400, 3) := dcs_17 (n := 400) (by decide +kernel)
theorem dX4_take_23 : decode cX4_take 23 = .ok (.if_icmp .lt 11, 3) := dcs_161 (n := 11) (by decide +kernel)
theorem dX4_take_26 : decode cX4_take 26 = .ok (.aload_n 0, 1) := dc1_42 (by decide +kernel)
theorem dX4_take_27 : decode cX4_take 27 = .ok (.iconst 2, 1) := dc1_5 (by decide +kernel)
theorem dX4_take_28 : decode cX4_take 28 = .ok (.invokevirtual 70, 3) := dcw_182 (by decide +kernel)
theorem dX4_take_31 : decode cX4_take 31 = .ok (.goto 13, 3) := dcs_167 (n := 13) (by decide +kernel)
theorem dX4_take_34 : decode cX4_take 34 = .ok (.aload_n 0, 1) := dc1_42 (by decide +kernel)
theorem dX4_take_35 : decode cX4_take 35 = .ok (.dup, 1) := dc1_89 (by decide +kernel)
theorem dX4_take_36 : decode cX4_take 36 = .ok (.getfield 38, 3) := dcw_180 (by decide +kernel)
theorem dX4_take_39 : decode cX4_take 39 = .ok (.iconst 1, 1) := dc1_4 (by decide +kernel)
theorem dX4_take_40 : decode cX4_take 40 = .ok (.iadd, 1) := dc1_96 (by decide +kernel)
theorem dX4_take_41 : decode cX4_take 41 = .ok (.putfield 38, 3) := dcw_181 (by decide +kernel)
theorem dX4_take_44 : decode cX4_take 44 = .ok (.return_, 1) := dc1_177 (by decide +kernel)
theorem ggX4_takeInt_X4_isAt : GoodIn wsX4_takeInt wsX4_isAt := gi_sub (fun w h => List.mem_cons_of_mem _ (List.mem_append_left _ (List.mem_append_left _ (List.mem_append_right _ (List.mem_append_left _ h))))) gd_wsX4_isAt
set_option maxRecDepth 20000 in
theorem gX4_takeInt_X4_isAt : GoodIn wsX4_takeInt (wsV RX4 53 RX4 yX4_isAt wsX4_isAt) := goodIn_app (goodIn_r _ [3, 4, 5, 6] (by decide +kernel) (by decide +kernel)) ggX4_takeInt_X4_isAt
theorem ggX4_takeInt_X4_failLater : GoodIn wsX4_takeInt wsX4_failLater := gi_sub (fun w h => List.mem_cons_of_mem _ (List.mem_append_left _ (List.mem_append_left _ (List.mem_append_right _ (List.mem_append_right _ (List.mem_append_left _ h)))))) gd_wsX4_failLater
set_option maxRecDepth 20000 in
theorem gX4_takeInt_X4_failLater : GoodIn wsX4_takeInt (wsV RX4 77 RX4 yX4_failLater wsX4_failLater) := goodIn_app (goodIn_r _ [7, 8, 9, 6] (by decide +kernel) (by decide +kernel)) ggX4_takeInt_X4_failLater
theorem ggX4_takeInt_X4_take : GoodIn wsX4_takeInt wsX4_take := gi_sub (fun w h => List.mem_cons_of_mem _ (List.mem_append_left _ (List.mem_append_left _ (List.mem_append_right _ (List.mem_append_right _ (List.mem_append_right _ h)))))) gd_wsX4_take
set_option maxRecDepth 20000 in
theorem gX4_takeInt_X4_take : GoodIn wsX4_takeInt (wsV RX4 81 RX4 yX4_take wsX4_take) := goodIn_app (goodIn_r _ [10, 11, 12, 6] (by decide +kernel) (by decide +kernel)) ggX4_takeInt_X4_take
theorem dX4_takeInt_0 : decode cX4_takeInt 0 = .ok (.aload_n 0, 1) := dc1_42 (by decide +kernel)
theorem dX4_takeInt_1 : decode cX4_takeInt 1 = .ok (.getfield 31, 3) := dcw_180 (by decide +kernel)
theorem dX4_takeInt_4 : decode cX4_takeInt 4 = .ok (.getfield 74, 3) := dcw_180 (by decide +kernel)
theorem dX4_takeInt_7 : decode cX4_takeInt 7 = .ok (.aload_n 0, 1) := dc1_42 (by decide +kernel)
theorem dX4_takeInt_8 : decode cX4_takeInt 8 = .ok (.getfield 38, 3) := dcw_180 (by decide +kernel)
theorem dX4_takeInt_11 : decode cX4_takeInt 11 = .ok (.laload, 1) := dc1_47 (by decide +kernel)
theorem dX4_takeInt_12 : decode cX4_takeInt 12 = .ok (.l2i, 1) := dc1_136 (by decide +kernel)
theorem dX4_takeInt_13 : decode cX4_takeInt 13 = .ok (.istore_n 2, 1) := dc1_61 (by decide +kernel)
theorem dX4_takeInt_14 : decode cX4_takeInt 14 = .ok (.aload_n 0, 1) := dc1_42 (by decide +kernel)
theorem dX4_takeInt_15 : decode cX4_takeInt 15 = .ok (.sipush 301, 3) := dcs_17 (n := 301) (by decide +kernel)
theorem dX4_takeInt_18 : decode cX4_takeInt 18 = .ok (.invokevirtual 53, 3) := dcw_182 (by decide +kernel)
theorem dX4_takeInt_21 : decode cX4_takeInt 21 = .ok (.ifCond .eq 25, 3) := dcs_153 (n := 25) (by decide +kernel)
theorem dX4_takeInt_24 : decode cX4_takeInt 24 = .ok (.iload_n 2, 1) := dc1_28 (by decide +kernel)
theorem dX4_takeInt_25 : decode cX4_takeInt 25 = .ok (.iload_n 1, 1) := dc1_27 (by decide +kernel)
theorem dX4_takeInt_26 : decode cX4_takeInt 26 = .ok (.if_icmp .le 20, 3) := dcs_164 (n := 20) (by decide +kernel)
theorem dX4_takeInt_29 : decode cX4_takeInt 29 = .ok (.aload_n 0, 1) := dc1_42 (by decide +kernel)
theorem dX4_takeInt_30 : decode cX4_takeInt 30 = .ok (.iconst 5, 1) := dc1_8 (by decide +kernel)
theorem dX4_takeInt_31 : decode cX4_takeInt 31 = .ok (.aload_n 0, 1) := dc1_42 (by decide +kernel)
theorem dX4_takeInt_32 : decode cX4_takeInt 32 = .ok (.getfield 31, 3) := dcw_180 (by decide +kernel)
theorem dX4_takeInt_35 : decode cX4_takeInt 35 = .ok (.getfield 67, 3) := dcw_180 (by decide +kernel)
theorem dX4_takeInt_38 : decode cX4_takeInt 38 = .ok (.aload_n 0, 1) := dc1_42 (by decide +kernel)
theorem dX4_takeInt_39 : decode cX4_takeInt 39 = .ok (.getfield 38, 3) := dcw_180 (by decide +kernel)
theorem dX4_takeInt_42 : decode cX4_takeInt 42 = .ok (.iaload, 1) := dc1_46 (by decide +kernel)
theorem dX4_takeInt_43 : decode cX4_takeInt 43 = .ok (.invokevirtual 77, 3) := dcw_182 (by decide +kernel)
theorem dX4_takeInt_46 : decode cX4_takeInt 46 = .ok (.aload_n 0, 1) := dc1_42 (by decide +kernel)
theorem dX4_takeInt_47 : decode cX4_takeInt 47 = .ok (.sipush 301, 3) := dcs_17 (n := 301) (by decide +kernel)
theorem dX4_takeInt_50 : decode cX4_takeInt 50 = .ok (.invokevirtual 81, 3) := dcw_182 (by decide +kernel)
theorem dX4_takeInt_53 : decode cX4_takeInt 53 = .ok (.iload_n 2, 1) := dc1_28 (by decide +kernel)
theorem dX4_takeInt_54 : decode cX4_takeInt 54 = .ok (.ireturn, 1) := dc1_172 (by decide +kernel)
theorem ggX4_readWave_X4_fail : GoodIn wsX4_readWave wsX4_fail := gi_sub (fun w h => List.mem_cons_of_mem _ (List.mem_append_left _ (List.mem_append_left _ (List.mem_append_left _ (List.mem_append_right _ (List.mem_append_left _ h)))))) gd_wsX4_fail
set_option maxRecDepth 20000 in
theorem gX4_readWave_X4_fail : GoodIn wsX4_readWave (wsV RX4 70 RX4 yX4_fail wsX4_fail) := goodIn_app (goodIn_r _ [4, 5, 6, 7] (by decide +kernel) (by decide +kernel)) ggX4_readWave_X4_fail
theorem ggX4_readWave_X4_take : GoodIn wsX4_readWave wsX4_take := gi_sub (fun w h => List.mem_cons_of_mem _ (List.mem_append_left _ (List.mem_append_left _ (List.mem_append_left _ (List.mem_append_right _ (List.mem_append_right _ (List.mem_append_left _ h))))))) gd_wsX4_take
set_option maxRecDepth 20000 in
theorem gX4_readWave_X4_take : GoodIn wsX4_readWave (wsV RX4 81 RX4 yX4_take wsX4_take) := goodIn_app (goodIn_r _ [8, 9, 10, 7] (by decide +kernel) (by decide +kernel)) ggX4_readWave_X4_take
theorem ggX4_readWave_X4_takeInt : GoodIn wsX4_readWave wsX4_takeInt := gi_sub (fun w h => List.mem_cons_of_mem _ (List.mem_append_left _ (List.mem_append_left _ (List.mem_append_left _ (List.mem_append_right _ (List.mem_append_right _ (List.mem_append_right _ (List.mem_append_left _ h)))))))) gd_wsX4_takeInt
set_option maxRecDepth 20000 in
theorem gX4_readWave_X4_takeInt : GoodIn wsX4_readWave (wsV RX4 90 RX4 yX4_takeInt wsX4_takeInt) := goodIn_app (goodIn_r _ [11, 12, 13, 7] (by decide +kernel) (by decide +kernel)) ggX4_readWave_X4_takeInt
theorem ggX4_readWave_X4_failLater : GoodIn wsX4_readWave wsX4_failLater := gi_sub (fun w h => List.mem_cons_of_mem _ (List.mem_append_left _ (List.mem_append_left _ (List.mem_append_left _ (List.mem_append_right _ (List.mem_append_right _ (List.mem_append_right _ (List.mem_append_right _ h)))))))) gd_wsX4_failLater
set_option maxRecDepth 20000 in
theorem gX4_readWave_X4_failLater : GoodIn wsX4_readWave (wsV RX4 77 RX4 yX4_failLater wsX4_failLater) := goodIn_app (goodIn_r _ [14, 15, 16, 7] (by decide +kernel) (by decide +kernel)) ggX4_readWave_X4_failLater
theorem dX4_readWave_0 : decode cX4_readWave 0 = .ok (.aload_n 0, 1) := dc1_42 (by decide +kernel)
theorem dX4_readWave_1 : decode cX4_readWave 1 = .ok (.getfield 12, 3) := dcw_180 (by decide +kernel)
theorem dX4_readWave_4 : decode cX4_readWave 4 = .ok (.getfield 100, 3) := dcw_180 (by decide +kernel)
theorem dX4_readWave_7 : decode cX4_readWave 7 = .ok (.iconst 5, 1) := dc1_8 (by decide +kernel)
theorem dX4_readWave_8 : decode cX4_readWave 8 = .ok (.if_icmp .lt 9, 3) := dcs_161 (n := 9) (by decide +kernel)
theorem dX4_readWave_11 : decode cX4_readWave 11 = .ok (.aload_n 0, 1) := dc1_42 (by decide +kernel)
theorem dX4_readWave_12 : decode cX4_readWave 12 = .ok (.iconst 2, 1) := dc1_5 (by decide +kernel)
theorem dX4_readWave_13 : decode cX4_readWave 13 = .ok (.invokevirtual 70, 3) := dcw_182 (by decide +kernel)
theorem dX4_readWave_16 : decode cX4_readWave 16 = .ok (.return_, 1) := dc1_177 (by decide +kernel)
theorem dX4_readWave_17 : decode cX4_readWave 17 = .ok (.aload_n 0, 1) := dc1_42 (by decide +kernel)
theorem dX4_readWave_18 : decode cX4_readWave 18 = .ok (.sipush 256, 3) := dcs_17 (n := 256) (by decide +kernel)
theorem dX4_readWave_21 : decode cX4_readWave 21 = .ok (.invokevirtual 81, 3) := dcw_182 (by decide +kernel)
theorem dX4_readWave_24 : decode cX4_readWave 24 = .ok (.iconst 0, 1) := dc1_3 (by decide +kernel)
theorem dX4_readWave_25 : decode cX4_readWave 25 = .ok (.istore_n 1, 1) := dc1_60 (by decide +kernel)
theorem dX4_readWave_26 : decode cX4_readWave 26 = .ok (.iconst (-1), 1) := dc1_2 (by decide +kernel)
theorem dX4_readWave_27 : decode cX4_readWave 27 = .ok (.istore_n 2, 1) := dc1_61 (by decide +kernel)
theorem dX4_readWave_28 : decode cX4_readWave 28 = .ok (.iconst 0, 1) := dc1_3 (by decide +kernel)
theorem dX4_readWave_29 : decode cX4_readWave 29 = .ok (.istore_n 3, 1) := dc1_62 (by decide +kernel)
theorem dX4_readWave_30 : decode cX4_readWave 30 = .ok (.iload_n 3, 1) := dc1_29 (by decide +kernel)
theorem dX4_readWave_31 : decode cX4_readWave 31 = .ok (.bipush 6, 2) := dcb_16 (n := 6) (by decide +kernel)
theorem dX4_readWave_33 : decode cX4_readWave 33 = .ok (.if_icmp .ge 57, 3) := dcs_162 (n := 57) (by decide +kernel)
theorem dX4_readWave_36 : decode cX4_readWave 36 = .ok (.aload_n 0, 1) := dc1_42 (by decide +kernel)
theorem dX4_readWave_37 : decode cX4_readWave 37 = .ok (.getfield 31, 3) := dcw_180 (by decide +kernel)
theorem dX4_readWave_40 : decode cX4_readWave 40 = .ok (.getfield 67, 3) := dcw_180 (by decide +kernel)
theorem dX4_readWave_43 : decode cX4_readWave 43 = .ok (.aload_n 0, 1) := dc1_42 (by decide +kernel)
theorem dX4_readWave_44 : decode cX4_readWave 44 = .ok (.getfield 38, 3) := dcw_180 (by decide +kernel)
theorem dX4_readWave_47 : decode cX4_readWave 47 = .ok (.iaload, 1) := dc1_46 (by decide +kernel)
theorem dX4_readWave_48 : decode cX4_readWave 48 = .ok (.istore_n 2, 1) := dc1_61 (by decide +kernel)
theorem dX4_readWave_49 : decode cX4_readWave 49 = .ok (.aload_n 0, 1) := dc1_42 (by decide +kernel)
theorem dX4_readWave_50 : decode cX4_readWave 50 = .ok (.bipush 9, 2) := dcb_16 (n := 9) (by decide +kernel)
theorem dX4_readWave_52 : decode cX4_readWave 52 = .ok (.invokevirtual 90, 3) := dcw_182 (by decide +kernel)
theorem dX4_readWave_55 : decode cX4_readWave 55 = .ok (.istore 4, 2) := dcu_54 (by decide +kernel)
theorem dX4_readWave_57 : decode cX4_readWave 57 = .ok (.aload_n 0, 1) := dc1_42 (by decide +kernel)
theorem dX4_readWave_58 : decode cX4_readWave 58 = .ok (.getfield 12, 3) := dcw_180 (by decide +kernel)
theorem dX4_readWave_61 : decode cX4_readWave 61 = .ok (.getfield 103, 3) := dcw_180 (by decide +kernel)
theorem dX4_readWave_64 : decode cX4_readWave 64 = .ok (.aload_n 0, 1) := dc1_42 (by decide +kernel)
theorem dX4_readWave_65 : decode cX4_readWave 65 = .ok (.getfield 12, 3) := dcw_180 (by decide +kernel)
theorem dX4_readWave_68 : decode cX4_readWave 68 = .ok (.getfield 100, 3) := dcw_180 (by decide +kernel)
theorem dX4_readWave_71 : decode cX4_readWave 71 = .ok (.bipush 6, 2) := dcb_16 (n := 6) (by decide +kernel)
theorem dX4_readWave_73 : decode cX4_readWave 73 = .ok (.imul, 1) := dc1_104 (by decide +kernel)
theorem dX4_readWave_74 : decode cX4_readWave 74 = .ok (.iload_n 3, 1) := dc1_29 (by decide +kernel)
theorem dX4_readWave_75 : decode cX4_readWave 75 = .ok (.iadd, 1) := dc1_96 (by decide +kernel)
theorem dX4_readWave_76 : decode cX4_readWave 76 = .ok (.iload 4, 2) := dcu_21 (by decide +kernel)
theorem dX4_readWave_78 : decode cX4_readWave 78 = .ok (.iastore, 1) := dc1_79 (by decide +kernel)
theorem dX4_readWave_79 : decode cX4_readWave 79 = .ok (.iload_n 1, 1) := dc1_27 (by decide +kernel)
theorem dX4_readWave_80 : decode cX4_readWave 80 = .ok (.iload 4, 2) := dcu_21 (by decide +kernel)
theorem dX4_readWave_82 : decode cX4_readWave 82 = .ok (.iadd, 1) := dc1_96 (by decide +kernel)
theorem dX4_readWave_83 : decode cX4_readWave 83 = .ok (.istore_n 1, 1) := dc1_60 (by decide +kernel)
theorem dX4_readWave_84 : decode cX4_readWave 84 = .ok (.iinc 3 1, 3) := dc_iinc (m := 1) (by decide +kernel)
theorem dX4_readWave_87 : decode cX4_readWave 87 = .ok (.goto (-57), 3) := dcs_167 (n := 65479) (by decide +kernel)
theorem dX4_readWave_90 : decode cX4_readWave 90 = .ok (.iload_n 1, 1) := dc1_27 (by decide +kernel)
theorem dX4_readWave_91 : decode cX4_readWave 91 = .ok (.ifCond .ne 9, 3) := dcs_154 (n := 9) (by decide +kernel)
theorem dX4_readWave_94 : decode cX4_readWave 94 = .ok (.aload_n 0, 1) := dc1_42 (by decide +kernel)
theorem dX4_readWave_95 : decode cX4_readWave 95 = .ok (.iconst 5, 1) := dc1_8 (by decide +kernel)
theorem dX4_readWave_96 : decode cX4_readWave 96 = .ok (.iload_n 2, 1) := dc1_28 (by decide +kernel)
theorem dX4_readWave_97 : decode cX4_readWave 97 = .ok (.invokevirtual 77, 3) := dcw_182 (by decide +kernel)
theorem dX4_readWave_100 : decode cX4_readWave 100 = .ok (.aload_n 0, 1) := dc1_42 (by decide +kernel)
theorem dX4_readWave_101 : decode cX4_readWave 101 = .ok (.bipush 59, 2) := dcb_16 (n := 59) (by decide +kernel)
theorem dX4_readWave_103 : decode cX4_readWave 103 = .ok (.invokevirtual 81, 3) := dcw_182 (by decide +kernel)
theorem dX4_readWave_106 : decode cX4_readWave 106 = .ok (.aload_n 0, 1) := dc1_42 (by decide +kernel)
theorem dX4_readWave_107 : decode cX4_readWave 107 = .ok (.getfield 12, 3) := dcw_180 (by decide +kernel)
theorem dX4_readWave_110 : decode cX4_readWave 110 = .ok (.dup, 1) := dc1_89 (by decide +kernel)
theorem dX4_readWave_111 : decode cX4_readWave 111 = .ok (.getfield 100, 3) := dcw_180 (by decide +kernel)
theorem dX4_readWave_114 : decode cX4_readWave 114 = .ok (.iconst 1, 1) := dc1_4 (by decide +kernel)
theorem dX4_readWave_115 : decode cX4_readWave 115 = .ok (.iadd, 1) := dc1_96 (by decide +kernel)
theorem dX4_readWave_116 : decode cX4_readWave 116 = .ok (.putfield 100, 3) := dcw_181 (by decide +kernel)
theorem dX4_readWave_119 : decode cX4_readWave 119 = .ok (.return_, 1) := dc1_177 (by decide +kernel)
theorem dX4_isTold_0 : decode cX4_isTold 0 = .ok (.iconst 0, 1) := dc1_3 (by decide +kernel)
theorem dX4_isTold_1 : decode cX4_isTold 1 = .ok (.istore_n 3, 1) := dc1_62 (by decide +kernel)
theorem dX4_isTold_2 : decode cX4_isTold 2 = .ok (.iload_n 3, 1) := dc1_29 (by decide +kernel)
theorem dX4_isTold_3 : decode cX4_isTold 3 = .ok (.aload_n 0, 1) := dc1_42 (by decide +kernel)
theorem dX4_isTold_4 : decode cX4_isTold 4 = .ok (.getfield 12, 3) := dcw_180 (by decide +kernel)
theorem dX4_isTold_7 : decode cX4_isTold 7 = .ok (.getfield 106, 3) := dcw_180 (by decide +kernel)
theorem dX4_isTold_10 : decode cX4_isTold 10 = .ok (.if_icmp .ge 22, 3) := dcs_162 (n := 22) (by decide +kernel)
theorem dX4_isTold_13 : decode cX4_isTold 13 = .ok (.aload_n 0, 1) := dc1_42 (by decide +kernel)
theorem dX4_isTold_14 : decode cX4_isTold 14 = .ok (.getfield 18, 3) := dcw_180 (by decide +kernel)
theorem dX4_isTold_17 : decode cX4_isTold 17 = .ok (.iload_n 3, 1) := dc1_29 (by decide +kernel)
theorem dX4_isTold_18 : decode cX4_isTold 18 = .ok (.laload, 1) := dc1_47 (by decide +kernel)
theorem dX4_isTold_19 : decode cX4_isTold 19 = .ok (.lload_n 1, 1) := dc1_31 (by decide +kernel)
theorem dX4_isTold_20 : decode cX4_isTold 20 = .ok (.lcmp, 1) := dc1_148 (by decide +kernel)
theorem dX4_isTold_21 : decode cX4_isTold 21 = .ok (.ifCond .ne 5, 3) := dcs_154 (n := 5) (by decide +kernel)
theorem dX4_isTold_24 : decode cX4_isTold 24 = .ok (.iconst 1, 1) := dc1_4 (by decide +kernel)
theorem dX4_isTold_25 : decode cX4_isTold 25 = .ok (.ireturn, 1) := dc1_172 (by decide +kernel)
theorem dX4_isTold_26 : decode cX4_isTold 26 = .ok (.iinc 3 1, 3) := dc_iinc (m := 1) (by decide +kernel)
theorem dX4_isTold_29 : decode cX4_isTold 29 = .ok (.goto (-27), 3) := dcs_167 (n := 65509) (by decide +kernel)
theorem dX4_isTold_32 : decode cX4_isTold 32 = .ok (.iconst 0, 1) := dc1_3 (by decide +kernel)
theorem dX4_isTold_33 : decode cX4_isTold 33 = .ok (.ireturn, 1) := dc1_172 (by decide +kernel)
theorem ggX5_copyFrom_X1_copyFrom : GoodIn wsX5_copyFrom wsX1_copyFrom := gi_sub (fun w h => List.mem_cons_of_mem _ (List.mem_append_left _ (List.mem_append_left _ (List.mem_append_right _ h)))) gd_wsX1_copyFrom
set_option maxRecDepth 20000 in
theorem gX5_copyFrom_X1_copyFrom_n61 : GoodIn wsX5_copyFrom (wsX1_copyFrom) := ggX5_copyFrom_X1_copyFrom
theorem dX5_copyFrom_0 : decode cX5_copyFrom 0 = .ok (.aload_n 1, 1) := dc1_43 (by decide +kernel)
theorem dX5_copyFrom_1 : decode cX5_copyFrom 1 = .ok (.getfield 9, 3) := dcw_180 (by decide +kernel)
theorem dX5_copyFrom_4 : decode cX5_copyFrom 4 = .ok (.iconst 0, 1) := dc1_3 (by decide +kernel)
theorem dX5_copyFrom_5 : decode cX5_copyFrom 5 = .ok (.aload_n 0, 1) := dc1_42 (by decide +kernel)
theorem dX5_copyFrom_6 : decode cX5_copyFrom 6 = .ok (.getfield 9, 3) := dcw_180 (by decide +kernel)
theorem dX5_copyFrom_9 : decode cX5_copyFrom 9 = .ok (.iconst 0, 1) := dc1_3 (by decide +kernel)
theorem dX5_copyFrom_10 : decode cX5_copyFrom 10 = .ok (.bipush 30, 2) := dcb_16 (n := 30) (by decide +kernel)
theorem dX5_copyFrom_12 : decode cX5_copyFrom 12 = .ok (.invokestatic 55, 3) := dcw_184 (by decide +kernel)
theorem dX5_copyFrom_15 : decode cX5_copyFrom 15 = .ok (.aload_n 1, 1) := dc1_43 (by decide +kernel)
theorem dX5_copyFrom_16 : decode cX5_copyFrom 16 = .ok (.getfield 15, 3) := dcw_180 (by decide +kernel)
theorem dX5_copyFrom_19 : decode cX5_copyFrom 19 = .ok (.iconst 0, 1) := dc1_3 (by decide +kernel)
theorem dX5_copyFrom_20 : decode cX5_copyFrom 20 = .ok (.aload_n 0, 1) := dc1_42 (by decide +kernel)
theorem dX5_copyFrom_21 : decode cX5_copyFrom 21 = .ok (.getfield 15, 3) := dcw_180 (by decide +kernel)
theorem dX5_copyFrom_24 : decode cX5_copyFrom 24 = .ok (.iconst 0, 1) := dc1_3 (by decide +kernel)
theorem dX5_copyFrom_25 : decode cX5_copyFrom 25 = .ok (.iconst 5, 1) := dc1_8 (by decide +kernel)
theorem dX5_copyFrom_26 : decode cX5_copyFrom 26 = .ok (.invokestatic 55, 3) := dcw_184 (by decide +kernel)
theorem dX5_copyFrom_29 : decode cX5_copyFrom 29 = .ok (.aload_n 1, 1) := dc1_43 (by decide +kernel)
theorem dX5_copyFrom_30 : decode cX5_copyFrom 30 = .ok (.getfield 18, 3) := dcw_180 (by decide +kernel)
theorem dX5_copyFrom_33 : decode cX5_copyFrom 33 = .ok (.iconst 0, 1) := dc1_3 (by decide +kernel)
theorem dX5_copyFrom_34 : decode cX5_copyFrom 34 = .ok (.aload_n 0, 1) := dc1_42 (by decide +kernel)
theorem dX5_copyFrom_35 : decode cX5_copyFrom 35 = .ok (.getfield 18, 3) := dcw_180 (by decide +kernel)
theorem dX5_copyFrom_38 : decode cX5_copyFrom 38 = .ok (.iconst 0, 1) := dc1_3 (by decide +kernel)
theorem dX5_copyFrom_39 : decode cX5_copyFrom 39 = .ok (.iconst 5, 1) := dc1_8 (by decide +kernel)
theorem dX5_copyFrom_40 : decode cX5_copyFrom 40 = .ok (.invokestatic 55, 3) := dcw_184 (by decide +kernel)
theorem dX5_copyFrom_43 : decode cX5_copyFrom 43 = .ok (.aload_n 1, 1) := dc1_43 (by decide +kernel)
theorem dX5_copyFrom_44 : decode cX5_copyFrom 44 = .ok (.getfield 21, 3) := dcw_180 (by decide +kernel)
theorem dX5_copyFrom_47 : decode cX5_copyFrom 47 = .ok (.iconst 0, 1) := dc1_3 (by decide +kernel)
theorem dX5_copyFrom_48 : decode cX5_copyFrom 48 = .ok (.aload_n 0, 1) := dc1_42 (by decide +kernel)
theorem dX5_copyFrom_49 : decode cX5_copyFrom 49 = .ok (.getfield 21, 3) := dcw_180 (by decide +kernel)
theorem dX5_copyFrom_52 : decode cX5_copyFrom 52 = .ok (.iconst 0, 1) := dc1_3 (by decide +kernel)
theorem dX5_copyFrom_53 : decode cX5_copyFrom 53 = .ok (.bipush 6, 2) := dcb_16 (n := 6) (by decide +kernel)
theorem dX5_copyFrom_55 : decode cX5_copyFrom 55 = .ok (.invokestatic 55, 3) := dcw_184 (by decide +kernel)
theorem dX5_copyFrom_58 : decode cX5_copyFrom 58 = .ok (.aload_n 1, 1) := dc1_43 (by decide +kernel)
theorem dX5_copyFrom_59 : decode cX5_copyFrom 59 = .ok (.getfield 24, 3) := dcw_180 (by decide +kernel)
theorem dX5_copyFrom_62 : decode cX5_copyFrom 62 = .ok (.iconst 0, 1) := dc1_3 (by decide +kernel)
theorem dX5_copyFrom_63 : decode cX5_copyFrom 63 = .ok (.aload_n 0, 1) := dc1_42 (by decide +kernel)
theorem dX5_copyFrom_64 : decode cX5_copyFrom 64 = .ok (.getfield 24, 3) := dcw_180 (by decide +kernel)
theorem dX5_copyFrom_67 : decode cX5_copyFrom 67 = .ok (.iconst 0, 1) := dc1_3 (by decide +kernel)
theorem dX5_copyFrom_68 : decode cX5_copyFrom 68 = .ok (.bipush 6, 2) := dcb_16 (n := 6) (by decide +kernel)
theorem dX5_copyFrom_70 : decode cX5_copyFrom 70 = .ok (.invokestatic 55, 3) := dcw_184 (by decide +kernel)
theorem dX5_copyFrom_73 : decode cX5_copyFrom 73 = .ok (.aload_n 0, 1) := dc1_42 (by decide +kernel)
theorem dX5_copyFrom_74 : decode cX5_copyFrom 74 = .ok (.getfield 30, 3) := dcw_180 (by decide +kernel)
theorem dX5_copyFrom_77 : decode cX5_copyFrom 77 = .ok (.aload_n 1, 1) := dc1_43 (by decide +kernel)
theorem dX5_copyFrom_78 : decode cX5_copyFrom 78 = .ok (.getfield 30, 3) := dcw_180 (by decide +kernel)
theorem dX5_copyFrom_81 : decode cX5_copyFrom 81 = .ok (.invokevirtual 61, 3) := dcw_182 (by decide +kernel)
theorem dX5_copyFrom_84 : decode cX5_copyFrom 84 = .ok (.aload_n 0, 1) := dc1_42 (by decide +kernel)
theorem dX5_copyFrom_85 : decode cX5_copyFrom 85 = .ok (.aload_n 1, 1) := dc1_43 (by decide +kernel)
theorem dX5_copyFrom_86 : decode cX5_copyFrom 86 = .ok (.getfield 37, 3) := dcw_180 (by decide +kernel)
theorem dX5_copyFrom_89 : decode cX5_copyFrom 89 = .ok (.putfield 37, 3) := dcw_181 (by decide +kernel)
theorem dX5_copyFrom_92 : decode cX5_copyFrom 92 = .ok (.aload_n 0, 1) := dc1_42 (by decide +kernel)
theorem dX5_copyFrom_93 : decode cX5_copyFrom 93 = .ok (.aload_n 1, 1) := dc1_43 (by decide +kernel)
theorem dX5_copyFrom_94 : decode cX5_copyFrom 94 = .ok (.getfield 41, 3) := dcw_180 (by decide +kernel)
theorem dX5_copyFrom_97 : decode cX5_copyFrom 97 = .ok (.putfield 41, 3) := dcw_181 (by decide +kernel)
theorem dX5_copyFrom_100 : decode cX5_copyFrom 100 = .ok (.aload_n 0, 1) := dc1_42 (by decide +kernel)
theorem dX5_copyFrom_101 : decode cX5_copyFrom 101 = .ok (.aload_n 1, 1) := dc1_43 (by decide +kernel)
theorem dX5_copyFrom_102 : decode cX5_copyFrom 102 = .ok (.getfield 44, 3) := dcw_180 (by decide +kernel)
theorem dX5_copyFrom_105 : decode cX5_copyFrom 105 = .ok (.putfield 44, 3) := dcw_181 (by decide +kernel)
theorem dX5_copyFrom_108 : decode cX5_copyFrom 108 = .ok (.aload_n 0, 1) := dc1_42 (by decide +kernel)
theorem dX5_copyFrom_109 : decode cX5_copyFrom 109 = .ok (.aload_n 1, 1) := dc1_43 (by decide +kernel)
theorem dX5_copyFrom_110 : decode cX5_copyFrom 110 = .ok (.getfield 47, 3) := dcw_180 (by decide +kernel)
theorem dX5_copyFrom_113 : decode cX5_copyFrom 113 = .ok (.putfield 47, 3) := dcw_181 (by decide +kernel)
theorem dX5_copyFrom_116 : decode cX5_copyFrom 116 = .ok (.return_, 1) := dc1_177 (by decide +kernel)
theorem dX5_hasWave_0 : decode cX5_hasWave 0 = .ok (.iload_n 1, 1) := dc1_27 (by decide +kernel)
theorem dX5_hasWave_1 : decode cX5_hasWave 1 = .ok (.ifCond .lt 15, 3) := dcs_155 (n := 15) (by decide +kernel)
theorem dX5_hasWave_4 : decode cX5_hasWave 4 = .ok (.iload_n 1, 1) := dc1_27 (by decide +kernel)
theorem dX5_hasWave_5 : decode cX5_hasWave 5 = .ok (.aload_n 0, 1) := dc1_42 (by decide +kernel)
theorem dX5_hasWave_6 : decode cX5_hasWave 6 = .ok (.getfield 37, 3) := dcw_180 (by decide +kernel)
theorem dX5_hasWave_9 : decode cX5_hasWave 9 = .ok (.if_icmp .ge 7, 3) := dcs_162 (n := 7) (by decide +kernel)
theorem dX5_hasWave_12 : decode cX5_hasWave 12 = .ok (.iconst 1, 1) := dc1_4 (by decide +kernel)
theorem dX5_hasWave_13 : decode cX5_hasWave 13 = .ok (.goto 4, 3) := dcs_167 (n := 4) (by decide +kernel)
theorem dX5_hasWave_16 : decode cX5_hasWave 16 = .ok (.iconst 0, 1) := dc1_3 (by decide +kernel)
theorem dX5_hasWave_17 : decode cX5_hasWave 17 = .ok (.ireturn, 1) := dc1_172 (by decide +kernel)
theorem dX5_hasParty_0 : decode cX5_hasParty 0 = .ok (.iload_n 1, 1) := dc1_27 (by decide +kernel)
theorem dX5_hasParty_1 : decode cX5_hasParty 1 = .ok (.ifCond .lt 15, 3) := dcs_155 (n := 15) (by decide +kernel)
theorem dX5_hasParty_4 : decode cX5_hasParty 4 = .ok (.iload_n 1, 1) := dc1_27 (by decide +kernel)
theorem dX5_hasParty_5 : decode cX5_hasParty 5 = .ok (.aload_n 0, 1) := dc1_42 (by decide +kernel)
theorem dX5_hasParty_6 : decode cX5_hasParty 6 = .ok (.getfield 41, 3) := dcw_180 (by decide +kernel)
theorem dX5_hasParty_9 : decode cX5_hasParty 9 = .ok (.if_icmp .ge 7, 3) := dcs_162 (n := 7) (by decide +kernel)
theorem dX5_hasParty_12 : decode cX5_hasParty 12 = .ok (.iconst 1, 1) := dc1_4 (by decide +kernel)
theorem dX5_hasParty_13 : decode cX5_hasParty 13 = .ok (.goto 4, 3) := dcs_167 (n := 4) (by decide +kernel)
theorem dX5_hasParty_16 : decode cX5_hasParty 16 = .ok (.iconst 0, 1) := dc1_3 (by decide +kernel)
theorem dX5_hasParty_17 : decode cX5_hasParty 17 = .ok (.ireturn, 1) := dc1_172 (by decide +kernel)
theorem dX5_hasGuess_0 : decode cX5_hasGuess 0 = .ok (.iload_n 1, 1) := dc1_27 (by decide +kernel)
theorem dX5_hasGuess_1 : decode cX5_hasGuess 1 = .ok (.ifCond .lt 15, 3) := dcs_155 (n := 15) (by decide +kernel)
theorem dX5_hasGuess_4 : decode cX5_hasGuess 4 = .ok (.iload_n 1, 1) := dc1_27 (by decide +kernel)
theorem dX5_hasGuess_5 : decode cX5_hasGuess 5 = .ok (.aload_n 0, 1) := dc1_42 (by decide +kernel)
theorem dX5_hasGuess_6 : decode cX5_hasGuess 6 = .ok (.getfield 44, 3) := dcw_180 (by decide +kernel)
theorem dX5_hasGuess_9 : decode cX5_hasGuess 9 = .ok (.if_icmp .ge 7, 3) := dcs_162 (n := 7) (by decide +kernel)
theorem dX5_hasGuess_12 : decode cX5_hasGuess 12 = .ok (.iconst 1, 1) := dc1_4 (by decide +kernel)
theorem dX5_hasGuess_13 : decode cX5_hasGuess 13 = .ok (.goto 4, 3) := dcs_167 (n := 4) (by decide +kernel)
theorem dX5_hasGuess_16 : decode cX5_hasGuess 16 = .ok (.iconst 0, 1) := dc1_3 (by decide +kernel)
theorem dX5_hasGuess_17 : decode cX5_hasGuess 17 = .ok (.ireturn, 1) := dc1_172 (by decide +kernel)
theorem dX5_oddsAt_0 : decode cX5_oddsAt 0 = .ok (.aload_n 0, 1) := dc1_42 (by decide +kernel)
theorem dX5_oddsAt_1 : decode cX5_oddsAt 1 = .ok (.getfield 9, 3) := dcw_180 (by decide +kernel)
theorem dX5_oddsAt_4 : decode cX5_oddsAt 4 = .ok (.iload_n 1, 1) := dc1_27 (by decide +kernel)
theorem dX5_oddsAt_5 : decode cX5_oddsAt 5 = .ok (.bipush 6, 2) := dcb_16 (n := 6) (by decide +kernel)
theorem dX5_oddsAt_7 : decode cX5_oddsAt 7 = .ok (.imul, 1) := dc1_104 (by decide +kernel)
theorem dX5_oddsAt_8 : decode cX5_oddsAt 8 = .ok (.iload_n 2, 1) := dc1_28 (by decide +kernel)
theorem dX5_oddsAt_9 : decode cX5_oddsAt 9 = .ok (.iadd, 1) := dc1_96 (by decide +kernel)
theorem dX5_oddsAt_10 : decode cX5_oddsAt 10 = .ok (.iaload, 1) := dc1_46 (by decide +kernel)
theorem dX5_oddsAt_11 : decode cX5_oddsAt 11 = .ok (.ireturn, 1) := dc1_172 (by decide +kernel)
theorem LX4_fail_22 : Cond.fieldLink RX4 22 "GuessFerry$Reader" "faultPlace" "I" ∈ wsX4_fail := by decide +kernel
theorem LX4_fail_31 : Cond.fieldLink RX4 31 "GuessFerry$Reader" "tokens" "LGuessFerry$Tokens;" ∈ wsX4_fail := by decide +kernel
theorem LX4_fail_38 : Cond.fieldLink RX4 38 "GuessFerry$Reader" "at" "I" ∈ wsX4_fail := by decide +kernel
theorem LX4_fail_41 : Cond.fieldLink RX4 41 "GuessFerry$Reader" "fault" "I" ∈ wsX4_fail := by decide +kernel
theorem inX4_fail_X4 : ∀ w ∈ u_ws RX4 TX4 8, w ∈ wsX4_fail := fun _ h => List.mem_cons_of_mem _ (List.mem_append_left _ (List.mem_append_right _ h))
theorem inX4_fail_X9 : ∀ w ∈ u_ws RX9 TX9 7, w ∈ wsX4_fail := fun _ h => List.mem_cons_of_mem _ (List.mem_append_right _ h)
set_option maxHeartbeats 4000000 in
set_option maxRecDepth 100000 in
theorem bkX4_fail {l : Launch} {dC : Nat → ClassId} {dI : Nat → Nat → Nat} {cB cI cJ cZ cS : ClassId} {a : Nat → Nat} {as : List Value} {s' : KS} (s : KS) (x1 : Int32) (hB : kX4_fail s x1 = some s') : BlkV l yX4_fail wsX4_fail ({ frames := 0, cells := 0, slots := 0, locals := 0 }) cX4_fail 2 none (dC, dI) (tysA cB cI cJ cZ cS) as 0 (wK cB cI cJ cZ cS a s) [(0, .ref (a 28)), (1, .int x1)] [] (fun u => u = (wK cB cI cJ cZ cS a s')) := by
  intro p e s0 m below meth c A E H locs ls hP hD hS hl
  obtain ⟨C, hr, hlocks, hA, hK, hN⟩ := id E
  obtain ⟨hx, hb, hml, hown, hts⟩ := id C
  unfold kX4_fail at hB
  refine lv_aload_n hx hb dX4_fail_0 rfl (lv_at hl 0 rfl) ?_
  refine q_get (v := .int (s.v 16)) C inX4_fail_X4 hK hP 28 rfl rfl 4 (by decide) rfl LX4_fail_41 rfl dX4_fail_1 ?_
  refine lv_if_ne (tgt := 28) hx hb dX4_fail_4 (by decide) (fun c1 => ?_) (fun c1 => ?_)
  · have hB := if_n hB c1
    exact q_vret C hr hlocks hK hP hD hS (Nat.le_of_ble_eq_true rfl) (Nat.le_of_ble_eq_true rfl) dX4_fail_28 (by cases hB; rfl)
  · have hB := if_p hB c1
    refine lv_aload_n hx hb dX4_fail_7 rfl (lv_at hl 0 rfl) ?_
    refine lv_iload_n hx hb dX4_fail_8 rfl (lv_at hl 1 rfl) ?_
    obtain ⟨s2, hs3, hB⟩ := letS_inv hB
    refine q_put (ty := .int) (w2 := (wK cB cI cJ cZ cS a s2)) tyX4 tyX4_ok nmX4 C inX4_fail_X4 hK hP hD hS 28 rfl rfl 4 (by decide) rfl LX4_fail_41 rfl (by decide +kernel) (rfl) rfl (Nat.le_of_ble_eq_true rfl) dX4_fail_9 (by subst hs3; rfl) (fun H locs hP hD hS => ?_)
    refine lv_aload_n hx hb dX4_fail_12 rfl (lv_at hl 0 rfl) ?_
    refine lv_aload_n hx hb dX4_fail_13 rfl (lv_at hl 0 rfl) ?_
    refine q_get (v := .ref (a 30)) C inX4_fail_X4 hK hP 28 rfl rfl 0 (by decide) rfl LX4_fail_31 rfl dX4_fail_14 ?_
    refine q_getN (v := .ref (a 33)) C hN inX4_fail_X9 hK hP 30 rfl rfl 3 (by decide) rfl nwF_X4_67 rfl dX4_fail_17 ?_
    refine lv_aload_n hx hb dX4_fail_20 rfl (lv_at hl 0 rfl) ?_
    refine q_get (v := .int (s2.v 15)) C inX4_fail_X4 hK hP 28 rfl rfl 3 (by decide) rfl LX4_fail_38 rfl dX4_fail_21 ?_
    obtain ⟨g4, hB⟩ := guard_inv hB
    refine q_iald (x := ((s2.f 33) (Int32.toNatClampNeg (s2.v 15)))) C hK hP 33 1 rfl rfl (vpb_in g4) dX4_fail_24 rfl ?_
    obtain ⟨s5, hs6, hB⟩ := letS_inv hB
    refine q_put (ty := .int) (w2 := (wK cB cI cJ cZ cS a s5)) tyX4 tyX4_ok nmX4 C inX4_fail_X4 hK hP hD hS 28 rfl rfl 5 (by decide) rfl LX4_fail_22 rfl (by decide +kernel) (rfl) rfl (Nat.le_of_ble_eq_true rfl) dX4_fail_25 (by subst hs6; rfl) (fun H locs hP hD hS => ?_)
    exact q_vret C hr hlocks hK hP hD hS (Nat.le_of_ble_eq_true rfl) (Nat.le_of_ble_eq_true rfl) dX4_fail_28 (by cases hB; rfl)
theorem ckX4_fail {l : Launch} {dC : Nat → ClassId} {dI : Nat → Nat → Nat} {cB cI cJ cZ cS : ClassId} {a : Nat → Nat} {s' : KS} {s : KS} {x1 : Int32} (hB : kX4_fail s x1 = some s') : CV l yX4_fail wsX4_fail ({ frames := 0, cells := 0, slots := 0, locals := 0 }) (dC, dI) (tysA cB cI cJ cZ cS) (wK cB cI cJ cZ cS a s) [.ref (a 28), .int x1] (fun u => u = (wK cB cI cJ cZ cS a s')) :=
  CV_of (cc := cX4_fail) (maxL := 2) (ret := none) (by decide) rfl (Nat.le_of_ble_eq_true rfl) (bkX4_fail _ _ hB)
theorem LX4_failLater_44 : Cond.fieldLink RX4 44 "GuessFerry$Reader" "laterFault" "I" ∈ wsX4_failLater := by decide +kernel
theorem LX4_failLater_47 : Cond.fieldLink RX4 47 "GuessFerry$Reader" "laterPlace" "I" ∈ wsX4_failLater := by decide +kernel
theorem inX4_failLater_X4 : ∀ w ∈ u_ws RX4 TX4 8, w ∈ wsX4_failLater := fun _ h => List.mem_cons_of_mem _ (List.mem_append_right _ h)
set_option maxHeartbeats 4000000 in
set_option maxRecDepth 100000 in
theorem bkX4_failLater {l : Launch} {dC : Nat → ClassId} {dI : Nat → Nat → Nat} {cB cI cJ cZ cS : ClassId} {a : Nat → Nat} {as : List Value} {s' : KS} (s : KS) (x1 : Int32) (x2 : Int32) (hB : kX4_failLater s x1 x2 = some s') : BlkV l yX4_failLater wsX4_failLater ({ frames := 0, cells := 0, slots := 0, locals := 0 }) cX4_failLater 3 none (dC, dI) (tysA cB cI cJ cZ cS) as 0 (wK cB cI cJ cZ cS a s) [(0, .ref (a 28)), (1, .int x1), (2, .int x2)] [] (fun u => u = (wK cB cI cJ cZ cS a s')) := by
  intro p e s0 m below meth c A E H locs ls hP hD hS hl
  obtain ⟨C, hr, hlocks, hA, hK, hN⟩ := id E
  obtain ⟨hx, hb, hml, hown, hts⟩ := id C
  unfold kX4_failLater at hB
  refine lv_aload_n hx hb dX4_failLater_0 rfl (lv_at hl 0 rfl) ?_
  refine q_get (v := .int (s.v 18)) C inX4_failLater_X4 hK hP 28 rfl rfl 6 (by decide) rfl LX4_failLater_44 rfl dX4_failLater_1 ?_
  refine lv_if_ne (tgt := 17) hx hb dX4_failLater_4 (by decide) (fun c1 => ?_) (fun c1 => ?_)
  · have hB := if_n hB c1
    exact q_vret C hr hlocks hK hP hD hS (Nat.le_of_ble_eq_true rfl) (Nat.le_of_ble_eq_true rfl) dX4_failLater_17 (by cases hB; rfl)
  · have hB := if_p hB c1
    refine lv_aload_n hx hb dX4_failLater_7 rfl (lv_at hl 0 rfl) ?_
    refine lv_iload_n hx hb dX4_failLater_8 rfl (lv_at hl 1 rfl) ?_
    obtain ⟨s2, hs3, hB⟩ := letS_inv hB
    refine q_put (ty := .int) (w2 := (wK cB cI cJ cZ cS a s2)) tyX4 tyX4_ok nmX4 C inX4_failLater_X4 hK hP hD hS 28 rfl rfl 6 (by decide) rfl LX4_failLater_44 rfl (by decide +kernel) (rfl) rfl (Nat.le_of_ble_eq_true rfl) dX4_failLater_9 (by subst hs3; rfl) (fun H locs hP hD hS => ?_)
    refine lv_aload_n hx hb dX4_failLater_12 rfl (lv_at hl 0 rfl) ?_
    refine lv_iload_n hx hb dX4_failLater_13 rfl (lv_at hl 2 rfl) ?_
    obtain ⟨s4, hs5, hB⟩ := letS_inv hB
    refine q_put (ty := .int) (w2 := (wK cB cI cJ cZ cS a s4)) tyX4 tyX4_ok nmX4 C inX4_failLater_X4 hK hP hD hS 28 rfl rfl 7 (by decide) rfl LX4_failLater_47 rfl (by decide +kernel) (rfl) rfl (Nat.le_of_ble_eq_true rfl) dX4_failLater_14 (by subst hs5; rfl) (fun H locs hP hD hS => ?_)
    exact q_vret C hr hlocks hK hP hD hS (Nat.le_of_ble_eq_true rfl) (Nat.le_of_ble_eq_true rfl) dX4_failLater_17 (by cases hB; rfl)
theorem ckX4_failLater {l : Launch} {dC : Nat → ClassId} {dI : Nat → Nat → Nat} {cB cI cJ cZ cS : ClassId} {a : Nat → Nat} {s' : KS} {s : KS} {x1 : Int32} {x2 : Int32} (hB : kX4_failLater s x1 x2 = some s') : CV l yX4_failLater wsX4_failLater ({ frames := 0, cells := 0, slots := 0, locals := 0 }) (dC, dI) (tysA cB cI cJ cZ cS) (wK cB cI cJ cZ cS a s) [.ref (a 28), .int x1, .int x2] (fun u => u = (wK cB cI cJ cZ cS a s')) :=
  CV_of (cc := cX4_failLater) (maxL := 3) (ret := none) (by decide) rfl (Nat.le_of_ble_eq_true rfl) (bkX4_failLater _ _ _ hB)
theorem LX4_take_38 : Cond.fieldLink RX4 38 "GuessFerry$Reader" "at" "I" ∈ wsX4_take := by decide +kernel
theorem inX4_take_X4 : ∀ w ∈ u_ws RX4 TX4 8, w ∈ wsX4_take := by decide +kernel
set_option maxHeartbeats 4000000 in
set_option maxRecDepth 100000 in
theorem bkX4_take {l : Launch} {dC : Nat → ClassId} {dI : Nat → Nat → Nat} {cB cI cJ cZ cS : ClassId} {a : Nat → Nat} {as : List Value} {s' : KS} (s : KS) (x1 : Int32) (hB : kX4_take s x1 = some s') : BlkV l yX4_take wsX4_take ({ frames := 1, cells := 0, slots := 0, locals := 21 }) cX4_take 2 none (dC, dI) (tysA cB cI cJ cZ cS) as 0 (wK cB cI cJ cZ cS a s) [(0, .ref (a 28)), (1, .int x1)] [] (fun u => u = (wK cB cI cJ cZ cS a s')) := by
  intro p e s0 m below meth c A E H locs ls hP hD hS hl
  obtain ⟨C, hr, hlocks, hA, hK, hN⟩ := id E
  obtain ⟨hx, hb, hml, hown, hts⟩ := id C
  unfold kX4_take at hB
  refine lv_aload_n hx hb dX4_take_0 rfl (lv_at hl 0 rfl) ?_
  refine lv_iload_n hx hb dX4_take_1 rfl (lv_at hl 1 rfl) ?_
  obtain ⟨q_, s1, hc, hB⟩ := bindI_inv hB
  refine q_goiF (va_runV (As := [.int x1]) (rest := []) C (ckX4_isAt hc _) (cwV 1 hts gX4_take_X4_isAt rfl rfl rfl (by decide +kernel) ⟨Nat.le_of_ble_eq_true rfl, Nat.le_of_ble_eq_true rfl⟩) (q_preV hK hP (ci := 4) (q0 := 28) rfl rfl rfl (q_preF hN hK hP hD)) rfl rfl hl.1 rfl (lv_room (Nat.le_of_ble_eq_true rfl)) dX4_take_2 ⟨Nat.le_of_ble_eq_true rfl, Nat.le_of_ble_eq_true rfl⟩) hD hS hA (fun r2 w1 H locs hw hP hD hS => ?_)
  obtain ⟨hq_, hw⟩ := hw; subst hw; subst hq_
  refine lv_if_ne (tgt := 16) hx hb dX4_take_5 (by decide) (fun c3 => ?_) (fun c3 => ?_)
  · have hB := if_n hB c3
    refine lv_aload_n hx hb dX4_take_16 rfl (lv_at hl 0 rfl) ?_
    refine q_get (v := .int (s1.v 15)) C inX4_take_X4 hK hP 28 rfl rfl 3 (by decide) rfl LX4_take_38 rfl dX4_take_17 ?_
    refine lv_sipush (v := 400) hx hb dX4_take_20 (by decide) ?_
    refine lv_icmp_lt (tgt := 34) hx hb dX4_take_23 (by decide) (fun c4 => ?_) (fun c4 => ?_)
    · have hB := if_p hB c4
      refine lv_aload_n hx hb dX4_take_34 rfl (lv_at hl 0 rfl) ?_
      refine lv_dup hx hb dX4_take_35 rfl ?_
      refine q_get (v := .int (s1.v 15)) C inX4_take_X4 hK hP 28 rfl rfl 3 (by decide) rfl LX4_take_38 rfl dX4_take_36 ?_
      refine lv_iconst (v := 1) hx hb dX4_take_39 (by decide) ?_
      refine lv_iadd hx hb dX4_take_40 ?_
      obtain ⟨s5, hs6, hB⟩ := letS_inv hB
      refine q_put (ty := .int) (w2 := (wK cB cI cJ cZ cS a s5)) tyX4 tyX4_ok nmX4 C inX4_take_X4 hK hP hD hS 28 rfl rfl 3 (by decide) rfl LX4_take_38 rfl (by decide +kernel) (rfl) rfl (Nat.le_of_ble_eq_true rfl) dX4_take_41 (by subst hs6; rfl) (fun H locs hP hD hS => ?_)
      exact q_vret C hr hlocks hK hP hD hS (Nat.le_of_ble_eq_true rfl) (Nat.le_of_ble_eq_true rfl) dX4_take_44 (by cases hB; rfl)
    · have hB := if_n hB c4
      refine lv_aload_n hx hb dX4_take_26 rfl (lv_at hl 0 rfl) ?_
      refine lv_iconst (v := 2) hx hb dX4_take_27 (by decide) ?_
      obtain ⟨s7, hc, hB⟩ := bindP_inv hB
      refine q_govF (va_runV (As := [.int 2]) (rest := []) C (ckX4_fail hc _) (cwV 1 hts gX4_take_X4_fail rfl rfl rfl (by decide +kernel) ⟨Nat.le_of_ble_eq_true rfl, Nat.le_of_ble_eq_true rfl⟩) (q_preV hK hP (ci := 4) (q0 := 28) rfl rfl rfl (q_preF hN hK hP hD)) rfl rfl hl.1 rfl (lv_room (Nat.le_of_ble_eq_true rfl)) dX4_take_28 ⟨Nat.le_of_ble_eq_true rfl, Nat.le_of_ble_eq_true rfl⟩) hD hS hA (fun w1 H locs hw hP hD hS => ?_)
      subst hw
      refine lv_goto (tgt := 44) hx hb dX4_take_31 (by decide) ?_
      exact q_vret C hr hlocks hK hP hD hS (Nat.le_of_ble_eq_true rfl) (Nat.le_of_ble_eq_true rfl) dX4_take_44 (by cases hB; rfl)
  · have hB := if_p hB c3
    refine lv_aload_n hx hb dX4_take_8 rfl (lv_at hl 0 rfl) ?_
    refine lv_iconst (v := 1) hx hb dX4_take_9 (by decide) ?_
    obtain ⟨s8, hc, hB⟩ := bindP_inv hB
    refine q_govF (va_runV (As := [.int 1]) (rest := []) C (ckX4_fail hc _) (cwV 1 hts gX4_take_X4_fail rfl rfl rfl (by decide +kernel) ⟨Nat.le_of_ble_eq_true rfl, Nat.le_of_ble_eq_true rfl⟩) (q_preV hK hP (ci := 4) (q0 := 28) rfl rfl rfl (q_preF hN hK hP hD)) rfl rfl hl.1 rfl (lv_room (Nat.le_of_ble_eq_true rfl)) dX4_take_10 ⟨Nat.le_of_ble_eq_true rfl, Nat.le_of_ble_eq_true rfl⟩) hD hS hA (fun w1 H locs hw hP hD hS => ?_)
    subst hw
    refine lv_goto (tgt := 44) hx hb dX4_take_13 (by decide) ?_
    exact q_vret C hr hlocks hK hP hD hS (Nat.le_of_ble_eq_true rfl) (Nat.le_of_ble_eq_true rfl) dX4_take_44 (by cases hB; rfl)
theorem ckX4_take {l : Launch} {dC : Nat → ClassId} {dI : Nat → Nat → Nat} {cB cI cJ cZ cS : ClassId} {a : Nat → Nat} {s' : KS} {s : KS} {x1 : Int32} (hB : kX4_take s x1 = some s') : CV l yX4_take wsX4_take ({ frames := 1, cells := 0, slots := 0, locals := 21 }) (dC, dI) (tysA cB cI cJ cZ cS) (wK cB cI cJ cZ cS a s) [.ref (a 28), .int x1] (fun u => u = (wK cB cI cJ cZ cS a s')) :=
  CV_of (cc := cX4_take) (maxL := 2) (ret := none) (by decide) rfl (Nat.le_of_ble_eq_true rfl) (bkX4_take _ _ hB)
theorem LX4_takeInt_31 : Cond.fieldLink RX4 31 "GuessFerry$Reader" "tokens" "LGuessFerry$Tokens;" ∈ wsX4_takeInt := by decide +kernel
theorem LX4_takeInt_38 : Cond.fieldLink RX4 38 "GuessFerry$Reader" "at" "I" ∈ wsX4_takeInt := by decide +kernel
theorem inX4_takeInt_X4 : ∀ w ∈ u_ws RX4 TX4 8, w ∈ wsX4_takeInt := by decide +kernel
theorem inX4_takeInt_X9 : ∀ w ∈ u_ws RX9 TX9 7, w ∈ wsX4_takeInt := by decide +kernel
set_option maxHeartbeats 4000000 in
set_option maxRecDepth 100000 in
theorem bkX4_takeInt_46 {l : Launch} {dC : Nat → ClassId} {dI : Nat → Nat → Nat} {cB cI cJ cZ cS : ClassId} {a : Nat → Nat} {as : List Value} {r : Int32} {s' : KS} (s : KS) (x2 : Int32) (hB : kX4_takeInt_46 s x2 = some (r, s')) : BlkI l yX4_takeInt wsX4_takeInt ({ frames := 2, cells := 0, slots := 0, locals := 42 }) cX4_takeInt 3 (some .int) (dC, dI) (tysA cB cI cJ cZ cS) as 46 (wK cB cI cJ cZ cS a s) [(0, .ref (a 28)), (2, .int x2)] [] (fun x u => x = r ∧ u = (wK cB cI cJ cZ cS a s')) := by
  intro p e s0 m below meth c A E H locs ls hP hD hS hl
  obtain ⟨C, hr, hlocks, hA, hK, hN⟩ := id E
  obtain ⟨hx, hb, hml, hown, hts⟩ := id C
  unfold kX4_takeInt_46 at hB
  refine lv_aload_n hx hb dX4_takeInt_46 rfl (lv_at hl 0 rfl) ?_
  refine lv_sipush (v := 301) hx hb dX4_takeInt_47 (by decide) ?_
  obtain ⟨s1, hc, hB⟩ := bindP_inv hB
  refine q_govF (va_runV (As := [.int 301]) (rest := []) C (ckX4_take hc _) (cwV 1 hts gX4_takeInt_X4_take rfl rfl rfl (by decide +kernel) ⟨Nat.le_of_ble_eq_true rfl, Nat.le_of_ble_eq_true rfl⟩) (q_preV hK hP (ci := 4) (q0 := 28) rfl rfl rfl (q_preF hN hK hP hD)) rfl rfl hl.1 rfl (lv_room (Nat.le_of_ble_eq_true rfl)) dX4_takeInt_50 ⟨Nat.le_of_ble_eq_true rfl, Nat.le_of_ble_eq_true rfl⟩) hD hS hA (fun w1 H locs hw hP hD hS => ?_)
  subst hw
  refine lv_iload_n hx hb dX4_takeInt_53 rfl (lv_at hl 1 rfl) ?_
  exact q_iret C hr hlocks hK hP hD hS (Nat.le_of_ble_eq_true rfl) (Nat.le_of_ble_eq_true rfl) dX4_takeInt_54 (by cases hB; exact ⟨rfl, rfl⟩)
set_option maxHeartbeats 4000000 in
set_option maxRecDepth 100000 in
theorem bkX4_takeInt {l : Launch} {dC : Nat → ClassId} {dI : Nat → Nat → Nat} {cB cI cJ cZ cS : ClassId} {a : Nat → Nat} {as : List Value} {r : Int32} {s' : KS} (s : KS) (x1 : Int32) (hB : kX4_takeInt s x1 = some (r, s')) : BlkI l yX4_takeInt wsX4_takeInt ({ frames := 2, cells := 0, slots := 0, locals := 42 }) cX4_takeInt 3 (some .int) (dC, dI) (tysA cB cI cJ cZ cS) as 0 (wK cB cI cJ cZ cS a s) [(0, .ref (a 28)), (1, .int x1)] [] (fun x u => x = r ∧ u = (wK cB cI cJ cZ cS a s')) := by
  intro p e s0 m below meth c A E H locs ls hP hD hS hl
  obtain ⟨C, hr, hlocks, hA, hK, hN⟩ := id E
  obtain ⟨hx, hb, hml, hown, hts⟩ := id C
  unfold kX4_takeInt at hB
  refine lv_aload_n hx hb dX4_takeInt_0 rfl (lv_at hl 0 rfl) ?_
  refine q_get (v := .ref (a 30)) C inX4_takeInt_X4 hK hP 28 rfl rfl 0 (by decide) rfl LX4_takeInt_31 rfl dX4_takeInt_1 ?_
  refine q_getN (v := .ref (a 34)) C hN inX4_takeInt_X9 hK hP 30 rfl rfl 4 (by decide) rfl nwF_X4_74 rfl dX4_takeInt_4 ?_
  refine lv_aload_n hx hb dX4_takeInt_7 rfl (lv_at hl 0 rfl) ?_
  refine q_get (v := .int (s.v 15)) C inX4_takeInt_X4 hK hP 28 rfl rfl 3 (by decide) rfl LX4_takeInt_38 rfl dX4_takeInt_8 ?_
  obtain ⟨g1, hB⟩ := guard_inv hB
  refine q_lald (x := ((s.g 34) (Int32.toNatClampNeg (s.v 15)))) C hK hP 34 2 rfl rfl (vpb_in g1) dX4_takeInt_11 rfl ?_
  refine lv_l2i (v := (Int64.toInt32 ((s.g 34) (Int32.toNatClampNeg (s.v 15))))) hx hb dX4_takeInt_12 rfl ?_
  refine lv_istore_n (lv' := [(2, .int (Int64.toInt32 ((s.g 34) (Int32.toNatClampNeg (s.v 15))))), (0, .ref (a 28)), (1, .int x1)]) hx hb dX4_takeInt_13 rfl hl (by decide) rfl (fun ls hl => ?_)
  refine lv_aload_n hx hb dX4_takeInt_14 rfl (lv_at hl 1 rfl) ?_
  refine lv_sipush (v := 301) hx hb dX4_takeInt_15 (by decide) ?_
  obtain ⟨q_, s2, hc, hB⟩ := bindI_inv hB
  refine q_goiF (va_runV (As := [.int 301]) (rest := []) C (ckX4_isAt hc _) (cwV 1 hts gX4_takeInt_X4_isAt rfl rfl rfl (by decide +kernel) ⟨Nat.le_of_ble_eq_true rfl, Nat.le_of_ble_eq_true rfl⟩) (q_preV hK hP (ci := 4) (q0 := 28) rfl rfl rfl (q_preF hN hK hP hD)) rfl rfl hl.1 rfl (lv_room (Nat.le_of_ble_eq_true rfl)) dX4_takeInt_18 ⟨Nat.le_of_ble_eq_true rfl, Nat.le_of_ble_eq_true rfl⟩) hD hS hA (fun r3 w1 H locs hw hP hD hS => ?_)
  obtain ⟨hq_, hw⟩ := hw; subst hw; subst hq_
  refine lv_if_eq (tgt := 46) hx hb dX4_takeInt_21 (by decide) (fun c4 => ?_) (fun c4 => ?_)
  · have hB := if_p hB c4
    exact bkX4_takeInt_46 _ _ hB p e s0 m below meth c A E H locs ls hP hD hS (lv_sub hl [1, 0] rfl)
  · have hB := if_n hB c4
    refine lv_iload_n hx hb dX4_takeInt_24 rfl (lv_at hl 0 rfl) ?_
    refine lv_iload_n hx hb dX4_takeInt_25 rfl (lv_at hl 2 rfl) ?_
    refine lv_icmp_le (tgt := 46) hx hb dX4_takeInt_26 (by decide) (fun c5 => ?_) (fun c5 => ?_)
    · have hB := if_p hB c5
      exact bkX4_takeInt_46 _ _ hB p e s0 m below meth c A E H locs ls hP hD hS (lv_sub hl [1, 0] rfl)
    · have hB := if_n hB c5
      refine lv_aload_n hx hb dX4_takeInt_29 rfl (lv_at hl 1 rfl) ?_
      refine lv_iconst (v := 5) hx hb dX4_takeInt_30 (by decide) ?_
      refine lv_aload_n hx hb dX4_takeInt_31 rfl (lv_at hl 1 rfl) ?_
      refine q_get (v := .ref (a 30)) C inX4_takeInt_X4 hK hP 28 rfl rfl 0 (by decide) rfl LX4_takeInt_31 rfl dX4_takeInt_32 ?_
      refine q_getN (v := .ref (a 33)) C hN inX4_takeInt_X9 hK hP 30 rfl rfl 3 (by decide) rfl nwF_X4_67 rfl dX4_takeInt_35 ?_
      refine lv_aload_n hx hb dX4_takeInt_38 rfl (lv_at hl 1 rfl) ?_
      refine q_get (v := .int (s2.v 15)) C inX4_takeInt_X4 hK hP 28 rfl rfl 3 (by decide) rfl LX4_takeInt_38 rfl dX4_takeInt_39 ?_
      obtain ⟨g6, hB⟩ := guard_inv hB
      refine q_iald (x := ((s2.f 33) (Int32.toNatClampNeg (s2.v 15)))) C hK hP 33 1 rfl rfl (vpb_in g6) dX4_takeInt_42 rfl ?_
      obtain ⟨s7, hc, hB⟩ := bindP_inv hB
      refine q_govF (va_runV (As := [.int 5, .int ((s2.f 33) (Int32.toNatClampNeg (s2.v 15)))]) (rest := []) C (ckX4_failLater hc _) (cwV 2 hts gX4_takeInt_X4_failLater rfl rfl rfl (by decide +kernel) ⟨Nat.le_of_ble_eq_true rfl, Nat.le_of_ble_eq_true rfl⟩) (q_preV hK hP (ci := 4) (q0 := 28) rfl rfl rfl (q_preF hN hK hP hD)) rfl rfl hl.1 rfl (lv_room (Nat.le_of_ble_eq_true rfl)) dX4_takeInt_43 ⟨Nat.le_of_ble_eq_true rfl, Nat.le_of_ble_eq_true rfl⟩) hD hS hA (fun w1 H locs hw hP hD hS => ?_)
      subst hw
      exact bkX4_takeInt_46 _ _ hB p e s0 m below meth c A E H locs ls hP hD hS (lv_sub hl [1, 0] rfl)
theorem ckX4_takeInt {l : Launch} {dC : Nat → ClassId} {dI : Nat → Nat → Nat} {cB cI cJ cZ cS : ClassId} {a : Nat → Nat} {r : Int32} {s' : KS} {s : KS} {x1 : Int32} (hB : kX4_takeInt s x1 = some (r, s')) : CI l yX4_takeInt wsX4_takeInt ({ frames := 2, cells := 0, slots := 0, locals := 42 }) (dC, dI) (tysA cB cI cJ cZ cS) (wK cB cI cJ cZ cS a s) [.ref (a 28), .int x1] (fun x u => x = r ∧ u = (wK cB cI cJ cZ cS a s')) :=
  CI_of (cc := cX4_takeInt) (maxL := 3) (ret := (some .int)) (by decide) rfl (Nat.le_of_ble_eq_true rfl) (bkX4_takeInt _ _ hB)
theorem LX4_readWave_12 : Cond.fieldLink RX4 12 "GuessFerry$Reader" "draft" "LGuessFerry$Sound;" ∈ wsX4_readWave := by decide +kernel
theorem LX4_readWave_31 : Cond.fieldLink RX4 31 "GuessFerry$Reader" "tokens" "LGuessFerry$Tokens;" ∈ wsX4_readWave := by decide +kernel
theorem LX4_readWave_38 : Cond.fieldLink RX4 38 "GuessFerry$Reader" "at" "I" ∈ wsX4_readWave := by decide +kernel
theorem inX4_readWave_X4 : ∀ w ∈ u_ws RX4 TX4 8, w ∈ wsX4_readWave := by decide +kernel
theorem inX4_readWave_X5 : ∀ w ∈ u_ws RX5 TX5 10, w ∈ wsX4_readWave := by decide +kernel
theorem inX4_readWave_X9 : ∀ w ∈ u_ws RX9 TX9 7, w ∈ wsX4_readWave := by decide +kernel
set_option maxHeartbeats 4000000 in
set_option maxRecDepth 100000 in
theorem bkX4_readWave_100 {l : Launch} {dC : Nat → ClassId} {dI : Nat → Nat → Nat} {cB cI cJ cZ cS : ClassId} {a : Nat → Nat} {as : List Value} {s' : KS} (s : KS) (hB : kX4_readWave_100 s = some s') : BlkV l yX4_readWave wsX4_readWave ({ frames := 3, cells := 0, slots := 0, locals := 64 }) cX4_readWave 5 none (dC, dI) (tysA cB cI cJ cZ cS) as 100 (wK cB cI cJ cZ cS a s) [(0, .ref (a 28))] [] (fun u => u = (wK cB cI cJ cZ cS a s')) := by
  intro p e s0 m below meth c A E H locs ls hP hD hS hl
  obtain ⟨C, hr, hlocks, hA, hK, hN⟩ := id E
  obtain ⟨hx, hb, hml, hown, hts⟩ := id C
  unfold kX4_readWave_100 at hB
  refine lv_aload_n hx hb dX4_readWave_100 rfl (lv_at hl 0 rfl) ?_
  refine lv_bipush (v := 59) hx hb dX4_readWave_101 (by decide) ?_
  obtain ⟨s1, hc, hB⟩ := bindP_inv hB
  refine q_govF (va_runV (As := [.int 59]) (rest := []) C (ckX4_take hc _) (cwV 1 hts gX4_readWave_X4_take rfl rfl rfl (by decide +kernel) ⟨Nat.le_of_ble_eq_true rfl, Nat.le_of_ble_eq_true rfl⟩) (q_preV hK hP (ci := 4) (q0 := 28) rfl rfl rfl (q_preF hN hK hP hD)) rfl rfl hl.1 rfl (lv_room (Nat.le_of_ble_eq_true rfl)) dX4_readWave_103 ⟨Nat.le_of_ble_eq_true rfl, Nat.le_of_ble_eq_true rfl⟩) hD hS hA (fun w1 H locs hw hP hD hS => ?_)
  subst hw
  refine lv_aload_n hx hb dX4_readWave_106 rfl (lv_at hl 0 rfl) ?_
  refine q_get (v := .ref (a 15)) C inX4_readWave_X4 hK hP 28 rfl rfl 1 (by decide) rfl LX4_readWave_12 rfl dX4_readWave_107 ?_
  refine lv_dup hx hb dX4_readWave_110 rfl ?_
  refine q_getN (v := .int (s1.v 8)) C hN inX4_readWave_X5 hK hP 15 rfl rfl 6 (by decide) rfl nwF_X4_100 rfl dX4_readWave_111 ?_
  refine lv_iconst (v := 1) hx hb dX4_readWave_114 (by decide) ?_
  refine lv_iadd hx hb dX4_readWave_115 ?_
  obtain ⟨s2, hs3, hB⟩ := letS_inv hB
  refine q_putN (ty := .int) (w2 := (wK cB cI cJ cZ cS a s2)) tyX5 tyX5_ok nmX5 C hN inX4_readWave_X5 hK hP hD hS 15 rfl rfl 6 (by decide) rfl nwF_X4_100 rfl (by decide +kernel) (rfl) rfl (Nat.le_of_ble_eq_true rfl) dX4_readWave_116 (by subst hs3; rfl) (fun H locs hP hD hS => ?_)
  exact q_vret C hr hlocks hK hP hD hS (Nat.le_of_ble_eq_true rfl) (Nat.le_of_ble_eq_true rfl) dX4_readWave_119 (by cases hB; rfl)
set_option maxHeartbeats 4000000 in
set_option maxRecDepth 100000 in
theorem bkX4_readWave_30 {l : Launch} {dC : Nat → ClassId} {dI : Nat → Nat → Nat} {cB cI cJ cZ cS : ClassId} {a : Nat → Nat} {as : List Value} {s' : KS} {k30 : KS → Int32 → Int32 → Int32 → Option KS} (hk30 : ∀ (s : KS) (x1 : Int32) (x2 : Int32) (x3 : Int32), k30 s x1 x2 x3 = some s' → BlkV l yX4_readWave wsX4_readWave ({ frames := 3, cells := 0, slots := 0, locals := 64 }) cX4_readWave 5 none (dC, dI) (tysA cB cI cJ cZ cS) as 30 (wK cB cI cJ cZ cS a s) [(0, .ref (a 28)), (1, .int x1), (2, .int x2), (3, .int x3)] [] (fun u => u = (wK cB cI cJ cZ cS a s'))) (s : KS) (x1 : Int32) (x2 : Int32) (x3 : Int32) (hB : kX4_readWave_30 k30 s x1 x2 x3 = some s') : BlkV l yX4_readWave wsX4_readWave ({ frames := 3, cells := 0, slots := 0, locals := 64 }) cX4_readWave 5 none (dC, dI) (tysA cB cI cJ cZ cS) as 30 (wK cB cI cJ cZ cS a s) [(0, .ref (a 28)), (1, .int x1), (2, .int x2), (3, .int x3)] [] (fun u => u = (wK cB cI cJ cZ cS a s')) := by
  intro p e s0 m below meth c A E H locs ls hP hD hS hl
  obtain ⟨C, hr, hlocks, hA, hK, hN⟩ := id E
  obtain ⟨hx, hb, hml, hown, hts⟩ := id C
  unfold kX4_readWave_30 at hB
  refine lv_iload_n hx hb dX4_readWave_30 rfl (lv_at hl 3 rfl) ?_
  refine lv_bipush (v := 6) hx hb dX4_readWave_31 (by decide) ?_
  refine lv_icmp_ge (tgt := 90) hx hb dX4_readWave_33 (by decide) (fun c1 => ?_) (fun c1 => ?_)
  · have hB := if_p hB c1
    refine lv_iload_n hx hb dX4_readWave_90 rfl (lv_at hl 1 rfl) ?_
    refine lv_if_ne (tgt := 100) hx hb dX4_readWave_91 (by decide) (fun c2 => ?_) (fun c2 => ?_)
    · have hB := if_n hB c2
      exact bkX4_readWave_100 _ hB p e s0 m below meth c A E H locs ls hP hD hS (lv_sub hl [0] rfl)
    · have hB := if_p hB c2
      refine lv_aload_n hx hb dX4_readWave_94 rfl (lv_at hl 0 rfl) ?_
      refine lv_iconst (v := 5) hx hb dX4_readWave_95 (by decide) ?_
      refine lv_iload_n hx hb dX4_readWave_96 rfl (lv_at hl 2 rfl) ?_
      obtain ⟨s3, hc, hB⟩ := bindP_inv hB
      refine q_govF (va_runV (As := [.int 5, .int x2]) (rest := []) C (ckX4_failLater hc _) (cwV 2 hts gX4_readWave_X4_failLater rfl rfl rfl (by decide +kernel) ⟨Nat.le_of_ble_eq_true rfl, Nat.le_of_ble_eq_true rfl⟩) (q_preV hK hP (ci := 4) (q0 := 28) rfl rfl rfl (q_preF hN hK hP hD)) rfl rfl hl.1 rfl (lv_room (Nat.le_of_ble_eq_true rfl)) dX4_readWave_97 ⟨Nat.le_of_ble_eq_true rfl, Nat.le_of_ble_eq_true rfl⟩) hD hS hA (fun w1 H locs hw hP hD hS => ?_)
      subst hw
      exact bkX4_readWave_100 _ hB p e s0 m below meth c A E H locs ls hP hD hS (lv_sub hl [0] rfl)
  · have hB := if_n hB c1
    refine lv_aload_n hx hb dX4_readWave_36 rfl (lv_at hl 0 rfl) ?_
    refine q_get (v := .ref (a 30)) C inX4_readWave_X4 hK hP 28 rfl rfl 0 (by decide) rfl LX4_readWave_31 rfl dX4_readWave_37 ?_
    refine q_getN (v := .ref (a 33)) C hN inX4_readWave_X9 hK hP 30 rfl rfl 3 (by decide) rfl nwF_X4_67 rfl dX4_readWave_40 ?_
    refine lv_aload_n hx hb dX4_readWave_43 rfl (lv_at hl 0 rfl) ?_
    refine q_get (v := .int (s.v 15)) C inX4_readWave_X4 hK hP 28 rfl rfl 3 (by decide) rfl LX4_readWave_38 rfl dX4_readWave_44 ?_
    obtain ⟨g4, hB⟩ := guard_inv hB
    refine q_iald (x := ((s.f 33) (Int32.toNatClampNeg (s.v 15)))) C hK hP 33 1 rfl rfl (vpb_in g4) dX4_readWave_47 rfl ?_
    refine lv_istore_n (lv' := [(2, .int ((s.f 33) (Int32.toNatClampNeg (s.v 15)))), (0, .ref (a 28)), (1, .int x1), (3, .int x3)]) hx hb dX4_readWave_48 rfl hl (by decide) rfl (fun ls hl => ?_)
    refine lv_aload_n hx hb dX4_readWave_49 rfl (lv_at hl 1 rfl) ?_
    refine lv_bipush (v := 9) hx hb dX4_readWave_50 (by decide) ?_
    obtain ⟨q_, s5, hc, hB⟩ := bindI_inv hB
    refine q_goiF (va_runV (As := [.int 9]) (rest := []) C (ckX4_takeInt hc _) (cwV 1 hts gX4_readWave_X4_takeInt rfl rfl rfl (by decide +kernel) ⟨Nat.le_of_ble_eq_true rfl, Nat.le_of_ble_eq_true rfl⟩) (q_preV hK hP (ci := 4) (q0 := 28) rfl rfl rfl (q_preF hN hK hP hD)) rfl rfl hl.1 rfl (lv_room (Nat.le_of_ble_eq_true rfl)) dX4_readWave_52 ⟨Nat.le_of_ble_eq_true rfl, Nat.le_of_ble_eq_true rfl⟩) hD hS hA (fun r6 w1 H locs hw hP hD hS => ?_)
    obtain ⟨hq_, hw⟩ := hw; subst hw; subst hq_
    refine lv_istore (lv' := [(4, .int r6), (2, .int ((s.f 33) (Int32.toNatClampNeg (s.v 15)))), (0, .ref (a 28)), (1, .int x1), (3, .int x3)]) hx hb dX4_readWave_55 hl (by decide) rfl (fun ls hl => ?_)
    refine lv_aload_n hx hb dX4_readWave_57 rfl (lv_at hl 2 rfl) ?_
    refine q_get (v := .ref (a 15)) C inX4_readWave_X4 hK hP 28 rfl rfl 1 (by decide) rfl LX4_readWave_12 rfl dX4_readWave_58 ?_
    refine q_getN (v := .ref (a 16)) C hN inX4_readWave_X5 hK hP 15 rfl rfl 0 (by decide) rfl nwF_X4_103 rfl dX4_readWave_61 ?_
    refine lv_aload_n hx hb dX4_readWave_64 rfl (lv_at hl 2 rfl) ?_
    refine q_get (v := .ref (a 15)) C inX4_readWave_X4 hK hP 28 rfl rfl 1 (by decide) rfl LX4_readWave_12 rfl dX4_readWave_65 ?_
    refine q_getN (v := .int (s5.v 8)) C hN inX4_readWave_X5 hK hP 15 rfl rfl 6 (by decide) rfl nwF_X4_100 rfl dX4_readWave_68 ?_
    refine lv_bipush (v := 6) hx hb dX4_readWave_71 (by decide) ?_
    refine lv_imul hx hb dX4_readWave_73 ?_
    refine lv_iload_n hx hb dX4_readWave_74 rfl (lv_at hl 4 rfl) ?_
    refine lv_iadd hx hb dX4_readWave_75 ?_
    refine lv_iload hx hb dX4_readWave_76 (lv_at hl 0 rfl) ?_
    obtain ⟨g7, hB⟩ := guard_inv hB
    obtain ⟨s8, hs9, hB⟩ := letS_inv hB
    refine q_iast (f2 := (upd (s5.f 16) (Int32.toNatClampNeg (((s5.v 8) * 6) + x3)) r6)) (w2 := (wK cB cI cJ cZ cS a s8)) C hK hP hD hS 16 1 rfl rfl (vpb_in g7) dX4_readWave_78 rfl (by subst hs9; rfl) (fun H locs hP hD hS => ?_)
    refine lv_iload_n hx hb dX4_readWave_79 rfl (lv_at hl 3 rfl) ?_
    refine lv_iload hx hb dX4_readWave_80 (lv_at hl 0 rfl) ?_
    refine lv_iadd hx hb dX4_readWave_82 ?_
    refine lv_istore_n (lv' := [(1, .int (x1 + r6)), (4, .int r6), (2, .int ((s.f 33) (Int32.toNatClampNeg (s.v 15)))), (0, .ref (a 28)), (3, .int x3)]) hx hb dX4_readWave_83 rfl hl (by decide) rfl (fun ls hl => ?_)
    refine lv_iinc (v := (x3 + 1)) (lv' := [(3, .int (x3 + 1)), (1, .int (x1 + r6)), (4, .int r6), (2, .int ((s.f 33) (Int32.toNatClampNeg (s.v 15)))), (0, .ref (a 28))]) hx hb dX4_readWave_84 hl (k := 4) rfl (rfl) (by decide) rfl (fun ls hl => ?_)
    refine lv_goto (tgt := 30) hx hb dX4_readWave_87 (by decide) ?_
    exact hk30 _ _ _ _ hB p e s0 m below meth c A E H locs ls hP hD hS (lv_sub hl [4, 1, 3, 0] rfl)
theorem bkX4_readWave_30L {l : Launch} {dC : Nat → ClassId} {dI : Nat → Nat → Nat} {cB cI cJ cZ cS : ClassId} {a : Nat → Nat} {as : List Value} {s' : KS} : ∀ (n : Nat) (s : KS) (x1 : Int32) (x2 : Int32) (x3 : Int32), kX4_readWave_30L n s x1 x2 x3 = some s' → BlkV l yX4_readWave wsX4_readWave ({ frames := 3, cells := 0, slots := 0, locals := 64 }) cX4_readWave 5 none (dC, dI) (tysA cB cI cJ cZ cS) as 30 (wK cB cI cJ cZ cS a s) [(0, .ref (a 28)), (1, .int x1), (2, .int x2), (3, .int x3)] [] (fun u => u = (wK cB cI cJ cZ cS a s')) := by
  intro n
  induction n with
  | zero => intro s x1 x2 x3 hB; exact none_ne hB
  | succ n ih => intro s x1 x2 x3 hB; exact bkX4_readWave_30 ih _ _ _ _ hB
set_option maxHeartbeats 4000000 in
set_option maxRecDepth 100000 in
theorem bkX4_readWave {l : Launch} {dC : Nat → ClassId} {dI : Nat → Nat → Nat} {cB cI cJ cZ cS : ClassId} {a : Nat → Nat} {as : List Value} {s' : KS} (s : KS) (hB : kX4_readWave s = some s') : BlkV l yX4_readWave wsX4_readWave ({ frames := 3, cells := 0, slots := 0, locals := 64 }) cX4_readWave 5 none (dC, dI) (tysA cB cI cJ cZ cS) as 0 (wK cB cI cJ cZ cS a s) [(0, .ref (a 28))] [] (fun u => u = (wK cB cI cJ cZ cS a s')) := by
  intro p e s0 m below meth c A E H locs ls hP hD hS hl
  obtain ⟨C, hr, hlocks, hA, hK, hN⟩ := id E
  obtain ⟨hx, hb, hml, hown, hts⟩ := id C
  unfold kX4_readWave at hB
  refine lv_aload_n hx hb dX4_readWave_0 rfl (lv_at hl 0 rfl) ?_
  refine q_get (v := .ref (a 15)) C inX4_readWave_X4 hK hP 28 rfl rfl 1 (by decide) rfl LX4_readWave_12 rfl dX4_readWave_1 ?_
  refine q_getN (v := .int (s.v 8)) C hN inX4_readWave_X5 hK hP 15 rfl rfl 6 (by decide) rfl nwF_X4_100 rfl dX4_readWave_4 ?_
  refine lv_iconst (v := 5) hx hb dX4_readWave_7 (by decide) ?_
  refine lv_icmp_lt (tgt := 17) hx hb dX4_readWave_8 (by decide) (fun c1 => ?_) (fun c1 => ?_)
  · have hB := if_p hB c1
    refine lv_aload_n hx hb dX4_readWave_17 rfl (lv_at hl 0 rfl) ?_
    refine lv_sipush (v := 256) hx hb dX4_readWave_18 (by decide) ?_
    obtain ⟨s2, hc, hB⟩ := bindP_inv hB
    refine q_govF (va_runV (As := [.int 256]) (rest := []) C (ckX4_take hc _) (cwV 1 hts gX4_readWave_X4_take rfl rfl rfl (by decide +kernel) ⟨Nat.le_of_ble_eq_true rfl, Nat.le_of_ble_eq_true rfl⟩) (q_preV hK hP (ci := 4) (q0 := 28) rfl rfl rfl (q_preF hN hK hP hD)) rfl rfl hl.1 rfl (lv_room (Nat.le_of_ble_eq_true rfl)) dX4_readWave_21 ⟨Nat.le_of_ble_eq_true rfl, Nat.le_of_ble_eq_true rfl⟩) hD hS hA (fun w1 H locs hw hP hD hS => ?_)
    subst hw
    refine lv_iconst (v := 0) hx hb dX4_readWave_24 (by decide) ?_
    refine lv_istore_n (lv' := [(1, .int 0), (0, .ref (a 28))]) hx hb dX4_readWave_25 rfl hl (by decide) rfl (fun ls hl => ?_)
    refine lv_iconst (v := (-1)) hx hb dX4_readWave_26 (by decide) ?_
    refine lv_istore_n (lv' := [(2, .int (-1)), (1, .int 0), (0, .ref (a 28))]) hx hb dX4_readWave_27 rfl hl (by decide) rfl (fun ls hl => ?_)
    refine lv_iconst (v := 0) hx hb dX4_readWave_28 (by decide) ?_
    refine lv_istore_n (lv' := [(3, .int 0), (2, .int (-1)), (1, .int 0), (0, .ref (a 28))]) hx hb dX4_readWave_29 rfl hl (by decide) rfl (fun ls hl => ?_)
    exact bkX4_readWave_30L fu _ _ _ _ hB p e s0 m below meth c A E H locs ls hP hD hS (lv_sub hl [3, 2, 1, 0] rfl)
  · have hB := if_n hB c1
    refine lv_aload_n hx hb dX4_readWave_11 rfl (lv_at hl 0 rfl) ?_
    refine lv_iconst (v := 2) hx hb dX4_readWave_12 (by decide) ?_
    obtain ⟨s3, hc, hB⟩ := bindP_inv hB
    refine q_govF (va_runV (As := [.int 2]) (rest := []) C (ckX4_fail hc _) (cwV 1 hts gX4_readWave_X4_fail rfl rfl rfl (by decide +kernel) ⟨Nat.le_of_ble_eq_true rfl, Nat.le_of_ble_eq_true rfl⟩) (q_preV hK hP (ci := 4) (q0 := 28) rfl rfl rfl (q_preF hN hK hP hD)) rfl rfl hl.1 rfl (lv_room (Nat.le_of_ble_eq_true rfl)) dX4_readWave_13 ⟨Nat.le_of_ble_eq_true rfl, Nat.le_of_ble_eq_true rfl⟩) hD hS hA (fun w1 H locs hw hP hD hS => ?_)
    subst hw
    exact q_vret C hr hlocks hK hP hD hS (Nat.le_of_ble_eq_true rfl) (Nat.le_of_ble_eq_true rfl) dX4_readWave_16 (by cases hB; rfl)
theorem ckX4_readWave {l : Launch} {dC : Nat → ClassId} {dI : Nat → Nat → Nat} {cB cI cJ cZ cS : ClassId} {a : Nat → Nat} {s' : KS} {s : KS} (hB : kX4_readWave s = some s') : CV l yX4_readWave wsX4_readWave ({ frames := 3, cells := 0, slots := 0, locals := 64 }) (dC, dI) (tysA cB cI cJ cZ cS) (wK cB cI cJ cZ cS a s) [.ref (a 28)] (fun u => u = (wK cB cI cJ cZ cS a s')) :=
  CV_of (cc := cX4_readWave) (maxL := 5) (ret := none) (by decide) rfl (Nat.le_of_ble_eq_true rfl) (bkX4_readWave _ hB)
theorem LX4_isTold_12 : Cond.fieldLink RX4 12 "GuessFerry$Reader" "draft" "LGuessFerry$Sound;" ∈ wsX4_isTold := by decide +kernel
theorem LX4_isTold_18 : Cond.fieldLink RX4 18 "GuessFerry$Reader" "names" "[J" ∈ wsX4_isTold := by decide +kernel
theorem inX4_isTold_X4 : ∀ w ∈ u_ws RX4 TX4 8, w ∈ wsX4_isTold := fun _ h => List.mem_cons_of_mem _ (List.mem_append_left _ (List.mem_append_right _ h))
theorem inX4_isTold_X5 : ∀ w ∈ u_ws RX5 TX5 10, w ∈ wsX4_isTold := fun _ h => List.mem_cons_of_mem _ (List.mem_append_right _ h)
set_option maxHeartbeats 4000000 in
set_option maxRecDepth 100000 in
theorem bkX4_isTold_2 {l : Launch} {dC : Nat → ClassId} {dI : Nat → Nat → Nat} {cB cI cJ cZ cS : ClassId} {a : Nat → Nat} {as : List Value} {r : Int32} {s' : KS} {k2 : KS → Int64 → Int32 → Option (Int32 × KS)} (hk2 : ∀ (s : KS) (x1 : Int64) (x3 : Int32), k2 s x1 x3 = some (r, s') → BlkI l yX4_isTold wsX4_isTold ({ frames := 0, cells := 0, slots := 0, locals := 0 }) cX4_isTold 4 (some .boolean) (dC, dI) (tysA cB cI cJ cZ cS) as 2 (wK cB cI cJ cZ cS a s) [(0, .ref (a 28)), (1, .long x1), (3, .int x3)] [] (fun x u => x = r ∧ u = (wK cB cI cJ cZ cS a s'))) (s : KS) (x1 : Int64) (x3 : Int32) (hB : kX4_isTold_2 k2 s x1 x3 = some (r, s')) : BlkI l yX4_isTold wsX4_isTold ({ frames := 0, cells := 0, slots := 0, locals := 0 }) cX4_isTold 4 (some .boolean) (dC, dI) (tysA cB cI cJ cZ cS) as 2 (wK cB cI cJ cZ cS a s) [(0, .ref (a 28)), (1, .long x1), (3, .int x3)] [] (fun x u => x = r ∧ u = (wK cB cI cJ cZ cS a s')) := by
  intro p e s0 m below meth c A E H locs ls hP hD hS hl
  obtain ⟨C, hr, hlocks, hA, hK, hN⟩ := id E
  obtain ⟨hx, hb, hml, hown, hts⟩ := id C
  unfold kX4_isTold_2 at hB
  refine lv_iload_n hx hb dX4_isTold_2 rfl (lv_at hl 2 rfl) ?_
  refine lv_aload_n hx hb dX4_isTold_3 rfl (lv_at hl 0 rfl) ?_
  refine q_get (v := .ref (a 15)) C inX4_isTold_X4 hK hP 28 rfl rfl 1 (by decide) rfl LX4_isTold_12 rfl dX4_isTold_4 ?_
  refine q_getN (v := .int (s.v 9)) C hN inX4_isTold_X5 hK hP 15 rfl rfl 7 (by decide) rfl nwF_X4_106 rfl dX4_isTold_7 ?_
  refine lv_icmp_ge (tgt := 32) hx hb dX4_isTold_10 (by decide) (fun c1 => ?_) (fun c1 => ?_)
  · have hB := if_p hB c1
    refine lv_iconst (v := 0) hx hb dX4_isTold_32 (by decide) ?_
    exact q_zret C hr hlocks (Or.inl rfl) hK hP hD hS (Nat.le_of_ble_eq_true rfl) (Nat.le_of_ble_eq_true rfl) dX4_isTold_33 (by cases hB; exact ⟨rfl, rfl⟩)
  · have hB := if_n hB c1
    refine lv_aload_n hx hb dX4_isTold_13 rfl (lv_at hl 0 rfl) ?_
    refine q_get (v := .ref (a 29)) C inX4_isTold_X4 hK hP 28 rfl rfl 2 (by decide) rfl LX4_isTold_18 rfl dX4_isTold_14 ?_
    refine lv_iload_n hx hb dX4_isTold_17 rfl (lv_at hl 2 rfl) ?_
    obtain ⟨g2, hB⟩ := guard_inv hB
    refine q_lald (x := ((s.g 29) (Int32.toNatClampNeg x3))) C hK hP 29 2 rfl rfl (vpb_in g2) dX4_isTold_18 rfl ?_
    refine lv_lload_n hx hb dX4_isTold_19 rfl (lv_at hl 1 rfl) ?_
    refine W.lcmp hx hb dX4_isTold_20 ?_
    refine lv_if_ne (tgt := 26) hx hb dX4_isTold_21 (by decide) (fun c3 => ?_) (fun c3 => ?_)
    · have hB := if_n hB c3
      refine lv_iinc (v := (x3 + 1)) (lv' := [(3, .int (x3 + 1)), (0, .ref (a 28)), (1, .long x1)]) hx hb dX4_isTold_26 hl (k := 2) rfl (rfl) (by decide) rfl (fun ls hl => ?_)
      refine lv_goto (tgt := 2) hx hb dX4_isTold_29 (by decide) ?_
      exact hk2 _ _ _ hB p e s0 m below meth c A E H locs ls hP hD hS (lv_sub hl [1, 2, 0] rfl)
    · have hB := if_p hB c3
      refine lv_iconst (v := 1) hx hb dX4_isTold_24 (by decide) ?_
      exact q_zret C hr hlocks (Or.inr rfl) hK hP hD hS (Nat.le_of_ble_eq_true rfl) (Nat.le_of_ble_eq_true rfl) dX4_isTold_25 (by cases hB; exact ⟨rfl, rfl⟩)
theorem bkX4_isTold_2L {l : Launch} {dC : Nat → ClassId} {dI : Nat → Nat → Nat} {cB cI cJ cZ cS : ClassId} {a : Nat → Nat} {as : List Value} {r : Int32} {s' : KS} : ∀ (n : Nat) (s : KS) (x1 : Int64) (x3 : Int32), kX4_isTold_2L n s x1 x3 = some (r, s') → BlkI l yX4_isTold wsX4_isTold ({ frames := 0, cells := 0, slots := 0, locals := 0 }) cX4_isTold 4 (some .boolean) (dC, dI) (tysA cB cI cJ cZ cS) as 2 (wK cB cI cJ cZ cS a s) [(0, .ref (a 28)), (1, .long x1), (3, .int x3)] [] (fun x u => x = r ∧ u = (wK cB cI cJ cZ cS a s')) := by
  intro n
  induction n with
  | zero => intro s x1 x3 hB; exact none_ne hB
  | succ n ih => intro s x1 x3 hB; exact bkX4_isTold_2 ih _ _ _ hB
set_option maxHeartbeats 4000000 in
set_option maxRecDepth 100000 in
theorem bkX4_isTold {l : Launch} {dC : Nat → ClassId} {dI : Nat → Nat → Nat} {cB cI cJ cZ cS : ClassId} {a : Nat → Nat} {as : List Value} {r : Int32} {s' : KS} (s : KS) (x1 : Int64) (hB : kX4_isTold s x1 = some (r, s')) : BlkI l yX4_isTold wsX4_isTold ({ frames := 0, cells := 0, slots := 0, locals := 0 }) cX4_isTold 4 (some .boolean) (dC, dI) (tysA cB cI cJ cZ cS) as 0 (wK cB cI cJ cZ cS a s) [(0, .ref (a 28)), (1, .long x1)] [] (fun x u => x = r ∧ u = (wK cB cI cJ cZ cS a s')) := by
  intro p e s0 m below meth c A E H locs ls hP hD hS hl
  obtain ⟨C, hr, hlocks, hA, hK, hN⟩ := id E
  obtain ⟨hx, hb, hml, hown, hts⟩ := id C
  unfold kX4_isTold at hB
  refine lv_iconst (v := 0) hx hb dX4_isTold_0 (by decide) ?_
  refine lv_istore_n (lv' := [(3, .int 0), (0, .ref (a 28)), (1, .long x1)]) hx hb dX4_isTold_1 rfl hl (by decide) rfl (fun ls hl => ?_)
  exact bkX4_isTold_2L fu _ _ _ hB p e s0 m below meth c A E H locs ls hP hD hS (lv_sub hl [1, 2, 0] rfl)
theorem ckX4_isTold {l : Launch} {dC : Nat → ClassId} {dI : Nat → Nat → Nat} {cB cI cJ cZ cS : ClassId} {a : Nat → Nat} {r : Int32} {s' : KS} {s : KS} {x1 : Int64} (hB : kX4_isTold s x1 = some (r, s')) : CI l yX4_isTold wsX4_isTold ({ frames := 0, cells := 0, slots := 0, locals := 0 }) (dC, dI) (tysA cB cI cJ cZ cS) (wK cB cI cJ cZ cS a s) [.ref (a 28), .long x1] (fun x u => x = r ∧ u = (wK cB cI cJ cZ cS a s')) :=
  CI_of (cc := cX4_isTold) (maxL := 4) (ret := (some .boolean)) (by decide) rfl (Nat.le_of_ble_eq_true rfl) (bkX4_isTold _ _ hB)
theorem LX5_copyFrom_15 : Cond.fieldLink RX5 15 "GuessFerry$Sound" "oddsSums" "[I" ∈ wsX5_copyFrom := by decide +kernel
theorem LX5_copyFrom_18 : Cond.fieldLink RX5 18 "GuessFerry$Sound" "likely" "[I" ∈ wsX5_copyFrom := by decide +kernel
theorem LX5_copyFrom_21 : Cond.fieldLink RX5 21 "GuessFerry$Sound" "heavy" "[I" ∈ wsX5_copyFrom := by decide +kernel
theorem LX5_copyFrom_24 : Cond.fieldLink RX5 24 "GuessFerry$Sound" "nerve" "[I" ∈ wsX5_copyFrom := by decide +kernel
theorem LX5_copyFrom_30 : Cond.fieldLink RX5 30 "GuessFerry$Sound" "laws" "LGuessFerry$Laws;" ∈ wsX5_copyFrom := by decide +kernel
theorem LX5_copyFrom_37 : Cond.fieldLink RX5 37 "GuessFerry$Sound" "waves" "I" ∈ wsX5_copyFrom := by decide +kernel
theorem LX5_copyFrom_41 : Cond.fieldLink RX5 41 "GuessFerry$Sound" "parties" "I" ∈ wsX5_copyFrom := by decide +kernel
theorem LX5_copyFrom_44 : Cond.fieldLink RX5 44 "GuessFerry$Sound" "guesses" "I" ∈ wsX5_copyFrom := by decide +kernel
theorem LX5_copyFrom_47 : Cond.fieldLink RX5 47 "GuessFerry$Sound" "seed" "I" ∈ wsX5_copyFrom := by decide +kernel
theorem LX5_copyFrom_9 : Cond.fieldLink RX5 9 "GuessFerry$Sound" "odds" "[I" ∈ wsX5_copyFrom := by decide +kernel
theorem LX5_copyFrom_A55 : Cond.methodLink RX5 55 arraycopyName ∈ wsX5_copyFrom := by decide +kernel
theorem LX5_copyFrom_AI : Cond.initialized "java/lang/System" ∈ wsX5_copyFrom := by decide +kernel
theorem LX5_copyFrom_AN : Cond.native arraycopyName ∈ wsX5_copyFrom := by decide +kernel
theorem LX5_copyFrom_AS : Cond.static arraycopyName ∈ wsX5_copyFrom := by decide +kernel
theorem LX5_copyFrom_E_X1_copyFrom : Cond.selects RX1 yX1_copyFrom yX1_copyFrom ∈ wsX5_copyFrom := by decide +kernel
theorem LX5_copyFrom_I_X1 : Cond.initialized RX1 ∈ wsX5_copyFrom := by decide +kernel
theorem LX5_copyFrom_N_X1_copyFrom : Cond.instanceMethod yX1_copyFrom ∈ wsX5_copyFrom := by decide +kernel
theorem inX5_copyFrom_X5 : ∀ w ∈ u_ws RX5 TX5 10, w ∈ wsX5_copyFrom := by decide +kernel
set_option maxHeartbeats 4000000 in
set_option maxRecDepth 100000 in
theorem bkX5_copyFrom {l : Launch} {dC : Nat → ClassId} {dI : Nat → Nat → Nat} {cB cI cJ cZ cS : ClassId} {a : Nat → Nat} {as : List Value} {s' : KS} (s : KS) (hB : kX5_copyFrom s = some s') : BlkV l yX5_copyFrom wsX5_copyFrom ({ frames := 2, cells := 0, slots := 0, locals := 85 }) cX5_copyFrom 2 none (dC, dI) (tysA cB cI cJ cZ cS) as 0 (wK cB cI cJ cZ cS a s) [(0, .ref (a 2)), (1, .ref (a 15))] [] (fun u => u = (wK cB cI cJ cZ cS a s')) := by
  intro p e s0 m below meth c A E H locs ls hP hD hS hl
  obtain ⟨C, hr, hlocks, hA, hK, hN⟩ := id E
  obtain ⟨hx, hb, hml, hown, hts⟩ := id C
  unfold kX5_copyFrom at hB
  refine lv_aload_n hx hb dX5_copyFrom_0 rfl (lv_at hl 1 rfl) ?_
  refine q_get (v := .ref (a 16)) C inX5_copyFrom_X5 hK hP 15 rfl rfl 0 (by decide) rfl LX5_copyFrom_9 rfl dX5_copyFrom_1 ?_
  refine lv_iconst (v := 0) hx hb dX5_copyFrom_4 (by decide) ?_
  refine lv_aload_n hx hb dX5_copyFrom_5 rfl (lv_at hl 0 rfl) ?_
  refine q_get (v := .ref (a 3)) C inX5_copyFrom_X5 hK hP 2 rfl rfl 0 (by decide) rfl LX5_copyFrom_9 rfl dX5_copyFrom_6 ?_
  refine lv_iconst (v := 0) hx hb dX5_copyFrom_9 (by decide) ?_
  refine lv_bipush (v := 30) hx hb dX5_copyFrom_10 (by decide) ?_
  obtain ⟨s1, hs2, hB⟩ := letS_inv hB
  refine va_copyi hx hb (hml.trans hl.1.symm) hown (hts _ LX5_copyFrom_A55) (hts _ LX5_copyFrom_AN) (hts _ LX5_copyFrom_AS) (hts _ LX5_copyFrom_AI) hK hP hD hS 16 3 1 1 rfl rfl rfl rfl rfl (by decide +kernel) (by decide +kernel) (by decide +kernel) (by decide +kernel) (by decide +kernel) (fun _ _ => rfl) (Nat.le_of_ble_eq_true rfl) (by decide +kernel) dX5_copyFrom_12 (fun H locs hP hD hS => ?_)
  have hP : va_P (dC, dI) vwCl (wK cB cI cJ cZ cS a s1) H := by subst hs2; exact hP
  have hD : va_D A (wK cB cI cJ cZ cS a s1) := by subst hs2; exact hD
  refine lv_aload_n hx hb dX5_copyFrom_15 rfl (lv_at hl 1 rfl) ?_
  refine q_get (v := .ref (a 17)) C inX5_copyFrom_X5 hK hP 15 rfl rfl 1 (by decide) rfl LX5_copyFrom_15 rfl dX5_copyFrom_16 ?_
  refine lv_iconst (v := 0) hx hb dX5_copyFrom_19 (by decide) ?_
  refine lv_aload_n hx hb dX5_copyFrom_20 rfl (lv_at hl 0 rfl) ?_
  refine q_get (v := .ref (a 4)) C inX5_copyFrom_X5 hK hP 2 rfl rfl 1 (by decide) rfl LX5_copyFrom_15 rfl dX5_copyFrom_21 ?_
  refine lv_iconst (v := 0) hx hb dX5_copyFrom_24 (by decide) ?_
  refine lv_iconst (v := 5) hx hb dX5_copyFrom_25 (by decide) ?_
  obtain ⟨s3, hs4, hB⟩ := letS_inv hB
  refine va_copyi hx hb (hml.trans hl.1.symm) hown (hts _ LX5_copyFrom_A55) (hts _ LX5_copyFrom_AN) (hts _ LX5_copyFrom_AS) (hts _ LX5_copyFrom_AI) hK hP hD hS 17 4 1 1 rfl rfl rfl rfl rfl (by decide +kernel) (by decide +kernel) (by decide +kernel) (by decide +kernel) (by decide +kernel) (fun _ _ => rfl) (Nat.le_of_ble_eq_true rfl) (by decide +kernel) dX5_copyFrom_26 (fun H locs hP hD hS => ?_)
  have hP : va_P (dC, dI) vwCl (wK cB cI cJ cZ cS a s3) H := by subst hs4; exact hP
  have hD : va_D A (wK cB cI cJ cZ cS a s3) := by subst hs4; exact hD
  refine lv_aload_n hx hb dX5_copyFrom_29 rfl (lv_at hl 1 rfl) ?_
  refine q_get (v := .ref (a 18)) C inX5_copyFrom_X5 hK hP 15 rfl rfl 2 (by decide) rfl LX5_copyFrom_18 rfl dX5_copyFrom_30 ?_
  refine lv_iconst (v := 0) hx hb dX5_copyFrom_33 (by decide) ?_
  refine lv_aload_n hx hb dX5_copyFrom_34 rfl (lv_at hl 0 rfl) ?_
  refine q_get (v := .ref (a 5)) C inX5_copyFrom_X5 hK hP 2 rfl rfl 2 (by decide) rfl LX5_copyFrom_18 rfl dX5_copyFrom_35 ?_
  refine lv_iconst (v := 0) hx hb dX5_copyFrom_38 (by decide) ?_
  refine lv_iconst (v := 5) hx hb dX5_copyFrom_39 (by decide) ?_
  obtain ⟨s5, hs6, hB⟩ := letS_inv hB
  refine va_copyi hx hb (hml.trans hl.1.symm) hown (hts _ LX5_copyFrom_A55) (hts _ LX5_copyFrom_AN) (hts _ LX5_copyFrom_AS) (hts _ LX5_copyFrom_AI) hK hP hD hS 18 5 1 1 rfl rfl rfl rfl rfl (by decide +kernel) (by decide +kernel) (by decide +kernel) (by decide +kernel) (by decide +kernel) (fun _ _ => rfl) (Nat.le_of_ble_eq_true rfl) (by decide +kernel) dX5_copyFrom_40 (fun H locs hP hD hS => ?_)
  have hP : va_P (dC, dI) vwCl (wK cB cI cJ cZ cS a s5) H := by subst hs6; exact hP
  have hD : va_D A (wK cB cI cJ cZ cS a s5) := by subst hs6; exact hD
  refine lv_aload_n hx hb dX5_copyFrom_43 rfl (lv_at hl 1 rfl) ?_
  refine q_get (v := .ref (a 19)) C inX5_copyFrom_X5 hK hP 15 rfl rfl 3 (by decide) rfl LX5_copyFrom_21 rfl dX5_copyFrom_44 ?_
  refine lv_iconst (v := 0) hx hb dX5_copyFrom_47 (by decide) ?_
  refine lv_aload_n hx hb dX5_copyFrom_48 rfl (lv_at hl 0 rfl) ?_
  refine q_get (v := .ref (a 6)) C inX5_copyFrom_X5 hK hP 2 rfl rfl 3 (by decide) rfl LX5_copyFrom_21 rfl dX5_copyFrom_49 ?_
  refine lv_iconst (v := 0) hx hb dX5_copyFrom_52 (by decide) ?_
  refine lv_bipush (v := 6) hx hb dX5_copyFrom_53 (by decide) ?_
  obtain ⟨s7, hs8, hB⟩ := letS_inv hB
  refine va_copyi hx hb (hml.trans hl.1.symm) hown (hts _ LX5_copyFrom_A55) (hts _ LX5_copyFrom_AN) (hts _ LX5_copyFrom_AS) (hts _ LX5_copyFrom_AI) hK hP hD hS 19 6 1 1 rfl rfl rfl rfl rfl (by decide +kernel) (by decide +kernel) (by decide +kernel) (by decide +kernel) (by decide +kernel) (fun _ _ => rfl) (Nat.le_of_ble_eq_true rfl) (by decide +kernel) dX5_copyFrom_55 (fun H locs hP hD hS => ?_)
  have hP : va_P (dC, dI) vwCl (wK cB cI cJ cZ cS a s7) H := by subst hs8; exact hP
  have hD : va_D A (wK cB cI cJ cZ cS a s7) := by subst hs8; exact hD
  refine lv_aload_n hx hb dX5_copyFrom_58 rfl (lv_at hl 1 rfl) ?_
  refine q_get (v := .ref (a 20)) C inX5_copyFrom_X5 hK hP 15 rfl rfl 4 (by decide) rfl LX5_copyFrom_24 rfl dX5_copyFrom_59 ?_
  refine lv_iconst (v := 0) hx hb dX5_copyFrom_62 (by decide) ?_
  refine lv_aload_n hx hb dX5_copyFrom_63 rfl (lv_at hl 0 rfl) ?_
  refine q_get (v := .ref (a 7)) C inX5_copyFrom_X5 hK hP 2 rfl rfl 4 (by decide) rfl LX5_copyFrom_24 rfl dX5_copyFrom_64 ?_
  refine lv_iconst (v := 0) hx hb dX5_copyFrom_67 (by decide) ?_
  refine lv_bipush (v := 6) hx hb dX5_copyFrom_68 (by decide) ?_
  obtain ⟨s9, hs10, hB⟩ := letS_inv hB
  refine va_copyi hx hb (hml.trans hl.1.symm) hown (hts _ LX5_copyFrom_A55) (hts _ LX5_copyFrom_AN) (hts _ LX5_copyFrom_AS) (hts _ LX5_copyFrom_AI) hK hP hD hS 20 7 1 1 rfl rfl rfl rfl rfl (by decide +kernel) (by decide +kernel) (by decide +kernel) (by decide +kernel) (by decide +kernel) (fun _ _ => rfl) (Nat.le_of_ble_eq_true rfl) (by decide +kernel) dX5_copyFrom_70 (fun H locs hP hD hS => ?_)
  have hP : va_P (dC, dI) vwCl (wK cB cI cJ cZ cS a s9) H := by subst hs10; exact hP
  have hD : va_D A (wK cB cI cJ cZ cS a s9) := by subst hs10; exact hD
  refine lv_aload_n hx hb dX5_copyFrom_73 rfl (lv_at hl 0 rfl) ?_
  refine q_get (v := .ref (a 8)) C inX5_copyFrom_X5 hK hP 2 rfl rfl 5 (by decide) rfl LX5_copyFrom_30 rfl dX5_copyFrom_74 ?_
  refine lv_aload_n hx hb dX5_copyFrom_77 rfl (lv_at hl 1 rfl) ?_
  refine q_get (v := .ref (a 21)) C inX5_copyFrom_X5 hK hP 15 rfl rfl 5 (by decide) rfl LX5_copyFrom_30 rfl dX5_copyFrom_78 ?_
  obtain ⟨s11, hc, hB⟩ := bindP_inv hB
  refine q_govF (va_runVN (As := [.ref (a 21)]) (rest := []) C (ckX1_copyFrom hc _) ⟨va_cnB 1 hts gX5_copyFrom_X1_copyFrom_n61 rfl rfl rfl (hN _ nwM_X5_61 rfl) (hts _ LX5_copyFrom_I_X1) (by decide +kernel) ⟨Nat.le_of_ble_eq_true rfl, Nat.le_of_ble_eq_true rfl⟩, hts _ LX5_copyFrom_N_X1_copyFrom, hts _ LX5_copyFrom_E_X1_copyFrom⟩ (q_preV hK hP (ci := 1) (q0 := 8) rfl rfl rfl (q_preF hN hK hP hD)) rfl rfl hl.1 rfl (lv_room (Nat.le_of_ble_eq_true rfl)) dX5_copyFrom_81 ⟨Nat.le_of_ble_eq_true rfl, Nat.le_of_ble_eq_true rfl⟩) hD hS hA (fun w1 H locs hw hP hD hS => ?_)
  subst hw
  refine lv_aload_n hx hb dX5_copyFrom_84 rfl (lv_at hl 0 rfl) ?_
  refine lv_aload_n hx hb dX5_copyFrom_85 rfl (lv_at hl 1 rfl) ?_
  refine q_get (v := .int (s11.v 8)) C inX5_copyFrom_X5 hK hP 15 rfl rfl 6 (by decide) rfl LX5_copyFrom_37 rfl dX5_copyFrom_86 ?_
  obtain ⟨s12, hs13, hB⟩ := letS_inv hB
  refine q_put (ty := .int) (w2 := (wK cB cI cJ cZ cS a s12)) tyX5 tyX5_ok nmX5 C inX5_copyFrom_X5 hK hP hD hS 2 rfl rfl 6 (by decide) rfl LX5_copyFrom_37 rfl (by decide +kernel) (rfl) rfl (Nat.le_of_ble_eq_true rfl) dX5_copyFrom_89 (by subst hs13; rfl) (fun H locs hP hD hS => ?_)
  refine lv_aload_n hx hb dX5_copyFrom_92 rfl (lv_at hl 0 rfl) ?_
  refine lv_aload_n hx hb dX5_copyFrom_93 rfl (lv_at hl 1 rfl) ?_
  refine q_get (v := .int (s12.v 9)) C inX5_copyFrom_X5 hK hP 15 rfl rfl 7 (by decide) rfl LX5_copyFrom_41 rfl dX5_copyFrom_94 ?_
  obtain ⟨s14, hs15, hB⟩ := letS_inv hB
  refine q_put (ty := .int) (w2 := (wK cB cI cJ cZ cS a s14)) tyX5 tyX5_ok nmX5 C inX5_copyFrom_X5 hK hP hD hS 2 rfl rfl 7 (by decide) rfl LX5_copyFrom_41 rfl (by decide +kernel) (rfl) rfl (Nat.le_of_ble_eq_true rfl) dX5_copyFrom_97 (by subst hs15; rfl) (fun H locs hP hD hS => ?_)
  refine lv_aload_n hx hb dX5_copyFrom_100 rfl (lv_at hl 0 rfl) ?_
  refine lv_aload_n hx hb dX5_copyFrom_101 rfl (lv_at hl 1 rfl) ?_
  refine q_get (v := .int (s14.v 10)) C inX5_copyFrom_X5 hK hP 15 rfl rfl 8 (by decide) rfl LX5_copyFrom_44 rfl dX5_copyFrom_102 ?_
  obtain ⟨s16, hs17, hB⟩ := letS_inv hB
  refine q_put (ty := .int) (w2 := (wK cB cI cJ cZ cS a s16)) tyX5 tyX5_ok nmX5 C inX5_copyFrom_X5 hK hP hD hS 2 rfl rfl 8 (by decide) rfl LX5_copyFrom_44 rfl (by decide +kernel) (rfl) rfl (Nat.le_of_ble_eq_true rfl) dX5_copyFrom_105 (by subst hs17; rfl) (fun H locs hP hD hS => ?_)
  refine lv_aload_n hx hb dX5_copyFrom_108 rfl (lv_at hl 0 rfl) ?_
  refine lv_aload_n hx hb dX5_copyFrom_109 rfl (lv_at hl 1 rfl) ?_
  refine q_get (v := .int (s16.v 11)) C inX5_copyFrom_X5 hK hP 15 rfl rfl 9 (by decide) rfl LX5_copyFrom_47 rfl dX5_copyFrom_110 ?_
  obtain ⟨s18, hs19, hB⟩ := letS_inv hB
  refine q_put (ty := .int) (w2 := (wK cB cI cJ cZ cS a s18)) tyX5 tyX5_ok nmX5 C inX5_copyFrom_X5 hK hP hD hS 2 rfl rfl 9 (by decide) rfl LX5_copyFrom_47 rfl (by decide +kernel) (rfl) rfl (Nat.le_of_ble_eq_true rfl) dX5_copyFrom_113 (by subst hs19; rfl) (fun H locs hP hD hS => ?_)
  exact q_vret C hr hlocks hK hP hD hS (Nat.le_of_ble_eq_true rfl) (Nat.le_of_ble_eq_true rfl) dX5_copyFrom_116 (by cases hB; rfl)
theorem ckX5_copyFrom {l : Launch} {dC : Nat → ClassId} {dI : Nat → Nat → Nat} {cB cI cJ cZ cS : ClassId} {a : Nat → Nat} {s' : KS} {s : KS} (hB : kX5_copyFrom s = some s') : CV l yX5_copyFrom wsX5_copyFrom ({ frames := 2, cells := 0, slots := 0, locals := 85 }) (dC, dI) (tysA cB cI cJ cZ cS) (wK cB cI cJ cZ cS a s) [.ref (a 2), .ref (a 15)] (fun u => u = (wK cB cI cJ cZ cS a s')) :=
  CV_of (cc := cX5_copyFrom) (maxL := 2) (ret := none) (by decide) rfl (Nat.le_of_ble_eq_true rfl) (bkX5_copyFrom _ hB)
theorem LX5_hasWave_37 : Cond.fieldLink RX5 37 "GuessFerry$Sound" "waves" "I" ∈ wsX5_hasWave := by decide +kernel
theorem inX5_hasWave_X5 : ∀ w ∈ u_ws RX5 TX5 10, w ∈ wsX5_hasWave := fun _ h => List.mem_cons_of_mem _ (List.mem_append_right _ h)
set_option maxHeartbeats 4000000 in
set_option maxRecDepth 100000 in
theorem bkX5_hasWave {l : Launch} {dC : Nat → ClassId} {dI : Nat → Nat → Nat} {cB cI cJ cZ cS : ClassId} {a : Nat → Nat} {as : List Value} {r : Int32} {s' : KS} (s : KS) (x1 : Int32) (hB : kX5_hasWave s x1 = some (r, s')) : BlkI l yX5_hasWave wsX5_hasWave ({ frames := 0, cells := 0, slots := 0, locals := 0 }) cX5_hasWave 2 (some .boolean) (dC, dI) (tysA cB cI cJ cZ cS) as 0 (wK cB cI cJ cZ cS a s) [(0, .ref (a 2)), (1, .int x1)] [] (fun x u => x = r ∧ u = (wK cB cI cJ cZ cS a s')) := by
  intro p e s0 m below meth c A E H locs ls hP hD hS hl
  obtain ⟨C, hr, hlocks, hA, hK, hN⟩ := id E
  obtain ⟨hx, hb, hml, hown, hts⟩ := id C
  unfold kX5_hasWave at hB
  refine lv_iload_n hx hb dX5_hasWave_0 rfl (lv_at hl 1 rfl) ?_
  refine lv_if_lt (tgt := 16) hx hb dX5_hasWave_1 (by decide) (fun c1 => ?_) (fun c1 => ?_)
  · have hB := if_p hB c1
    refine lv_iconst (v := 0) hx hb dX5_hasWave_16 (by decide) ?_
    exact q_zret C hr hlocks (Or.inl rfl) hK hP hD hS (Nat.le_of_ble_eq_true rfl) (Nat.le_of_ble_eq_true rfl) dX5_hasWave_17 (by cases hB; exact ⟨rfl, rfl⟩)
  · have hB := if_n hB c1
    refine lv_iload_n hx hb dX5_hasWave_4 rfl (lv_at hl 1 rfl) ?_
    refine lv_aload_n hx hb dX5_hasWave_5 rfl (lv_at hl 0 rfl) ?_
    refine q_get (v := .int (s.v 1)) C inX5_hasWave_X5 hK hP 2 rfl rfl 6 (by decide) rfl LX5_hasWave_37 rfl dX5_hasWave_6 ?_
    refine lv_icmp_ge (tgt := 16) hx hb dX5_hasWave_9 (by decide) (fun c2 => ?_) (fun c2 => ?_)
    · have hB := if_p hB c2
      refine lv_iconst (v := 0) hx hb dX5_hasWave_16 (by decide) ?_
      exact q_zret C hr hlocks (Or.inl rfl) hK hP hD hS (Nat.le_of_ble_eq_true rfl) (Nat.le_of_ble_eq_true rfl) dX5_hasWave_17 (by cases hB; exact ⟨rfl, rfl⟩)
    · have hB := if_n hB c2
      refine lv_iconst (v := 1) hx hb dX5_hasWave_12 (by decide) ?_
      refine lv_goto (tgt := 17) hx hb dX5_hasWave_13 (by decide) ?_
      exact q_zret C hr hlocks (Or.inr rfl) hK hP hD hS (Nat.le_of_ble_eq_true rfl) (Nat.le_of_ble_eq_true rfl) dX5_hasWave_17 (by cases hB; exact ⟨rfl, rfl⟩)
theorem ckX5_hasWave {l : Launch} {dC : Nat → ClassId} {dI : Nat → Nat → Nat} {cB cI cJ cZ cS : ClassId} {a : Nat → Nat} {r : Int32} {s' : KS} {s : KS} {x1 : Int32} (hB : kX5_hasWave s x1 = some (r, s')) : CI l yX5_hasWave wsX5_hasWave ({ frames := 0, cells := 0, slots := 0, locals := 0 }) (dC, dI) (tysA cB cI cJ cZ cS) (wK cB cI cJ cZ cS a s) [.ref (a 2), .int x1] (fun x u => x = r ∧ u = (wK cB cI cJ cZ cS a s')) :=
  CI_of (cc := cX5_hasWave) (maxL := 2) (ret := (some .boolean)) (by decide) rfl (Nat.le_of_ble_eq_true rfl) (bkX5_hasWave _ _ hB)
theorem LX5_hasParty_41 : Cond.fieldLink RX5 41 "GuessFerry$Sound" "parties" "I" ∈ wsX5_hasParty := by decide +kernel
theorem inX5_hasParty_X5 : ∀ w ∈ u_ws RX5 TX5 10, w ∈ wsX5_hasParty := fun _ h => List.mem_cons_of_mem _ (List.mem_append_right _ h)
set_option maxHeartbeats 4000000 in
set_option maxRecDepth 100000 in
theorem bkX5_hasParty {l : Launch} {dC : Nat → ClassId} {dI : Nat → Nat → Nat} {cB cI cJ cZ cS : ClassId} {a : Nat → Nat} {as : List Value} {r : Int32} {s' : KS} (s : KS) (x1 : Int32) (hB : kX5_hasParty s x1 = some (r, s')) : BlkI l yX5_hasParty wsX5_hasParty ({ frames := 0, cells := 0, slots := 0, locals := 0 }) cX5_hasParty 2 (some .boolean) (dC, dI) (tysA cB cI cJ cZ cS) as 0 (wK cB cI cJ cZ cS a s) [(0, .ref (a 2)), (1, .int x1)] [] (fun x u => x = r ∧ u = (wK cB cI cJ cZ cS a s')) := by
  intro p e s0 m below meth c A E H locs ls hP hD hS hl
  obtain ⟨C, hr, hlocks, hA, hK, hN⟩ := id E
  obtain ⟨hx, hb, hml, hown, hts⟩ := id C
  unfold kX5_hasParty at hB
  refine lv_iload_n hx hb dX5_hasParty_0 rfl (lv_at hl 1 rfl) ?_
  refine lv_if_lt (tgt := 16) hx hb dX5_hasParty_1 (by decide) (fun c1 => ?_) (fun c1 => ?_)
  · have hB := if_p hB c1
    refine lv_iconst (v := 0) hx hb dX5_hasParty_16 (by decide) ?_
    exact q_zret C hr hlocks (Or.inl rfl) hK hP hD hS (Nat.le_of_ble_eq_true rfl) (Nat.le_of_ble_eq_true rfl) dX5_hasParty_17 (by cases hB; exact ⟨rfl, rfl⟩)
  · have hB := if_n hB c1
    refine lv_iload_n hx hb dX5_hasParty_4 rfl (lv_at hl 1 rfl) ?_
    refine lv_aload_n hx hb dX5_hasParty_5 rfl (lv_at hl 0 rfl) ?_
    refine q_get (v := .int (s.v 2)) C inX5_hasParty_X5 hK hP 2 rfl rfl 7 (by decide) rfl LX5_hasParty_41 rfl dX5_hasParty_6 ?_
    refine lv_icmp_ge (tgt := 16) hx hb dX5_hasParty_9 (by decide) (fun c2 => ?_) (fun c2 => ?_)
    · have hB := if_p hB c2
      refine lv_iconst (v := 0) hx hb dX5_hasParty_16 (by decide) ?_
      exact q_zret C hr hlocks (Or.inl rfl) hK hP hD hS (Nat.le_of_ble_eq_true rfl) (Nat.le_of_ble_eq_true rfl) dX5_hasParty_17 (by cases hB; exact ⟨rfl, rfl⟩)
    · have hB := if_n hB c2
      refine lv_iconst (v := 1) hx hb dX5_hasParty_12 (by decide) ?_
      refine lv_goto (tgt := 17) hx hb dX5_hasParty_13 (by decide) ?_
      exact q_zret C hr hlocks (Or.inr rfl) hK hP hD hS (Nat.le_of_ble_eq_true rfl) (Nat.le_of_ble_eq_true rfl) dX5_hasParty_17 (by cases hB; exact ⟨rfl, rfl⟩)
theorem ckX5_hasParty {l : Launch} {dC : Nat → ClassId} {dI : Nat → Nat → Nat} {cB cI cJ cZ cS : ClassId} {a : Nat → Nat} {r : Int32} {s' : KS} {s : KS} {x1 : Int32} (hB : kX5_hasParty s x1 = some (r, s')) : CI l yX5_hasParty wsX5_hasParty ({ frames := 0, cells := 0, slots := 0, locals := 0 }) (dC, dI) (tysA cB cI cJ cZ cS) (wK cB cI cJ cZ cS a s) [.ref (a 2), .int x1] (fun x u => x = r ∧ u = (wK cB cI cJ cZ cS a s')) :=
  CI_of (cc := cX5_hasParty) (maxL := 2) (ret := (some .boolean)) (by decide) rfl (Nat.le_of_ble_eq_true rfl) (bkX5_hasParty _ _ hB)
theorem LX5_hasGuess_44 : Cond.fieldLink RX5 44 "GuessFerry$Sound" "guesses" "I" ∈ wsX5_hasGuess := by decide +kernel
theorem inX5_hasGuess_X5 : ∀ w ∈ u_ws RX5 TX5 10, w ∈ wsX5_hasGuess := fun _ h => List.mem_cons_of_mem _ (List.mem_append_right _ h)
set_option maxHeartbeats 4000000 in
set_option maxRecDepth 100000 in
theorem bkX5_hasGuess {l : Launch} {dC : Nat → ClassId} {dI : Nat → Nat → Nat} {cB cI cJ cZ cS : ClassId} {a : Nat → Nat} {as : List Value} {r : Int32} {s' : KS} (s : KS) (x1 : Int32) (hB : kX5_hasGuess s x1 = some (r, s')) : BlkI l yX5_hasGuess wsX5_hasGuess ({ frames := 0, cells := 0, slots := 0, locals := 0 }) cX5_hasGuess 2 (some .boolean) (dC, dI) (tysA cB cI cJ cZ cS) as 0 (wK cB cI cJ cZ cS a s) [(0, .ref (a 2)), (1, .int x1)] [] (fun x u => x = r ∧ u = (wK cB cI cJ cZ cS a s')) := by
  intro p e s0 m below meth c A E H locs ls hP hD hS hl
  obtain ⟨C, hr, hlocks, hA, hK, hN⟩ := id E
  obtain ⟨hx, hb, hml, hown, hts⟩ := id C
  unfold kX5_hasGuess at hB
  refine lv_iload_n hx hb dX5_hasGuess_0 rfl (lv_at hl 1 rfl) ?_
  refine lv_if_lt (tgt := 16) hx hb dX5_hasGuess_1 (by decide) (fun c1 => ?_) (fun c1 => ?_)
  · have hB := if_p hB c1
    refine lv_iconst (v := 0) hx hb dX5_hasGuess_16 (by decide) ?_
    exact q_zret C hr hlocks (Or.inl rfl) hK hP hD hS (Nat.le_of_ble_eq_true rfl) (Nat.le_of_ble_eq_true rfl) dX5_hasGuess_17 (by cases hB; exact ⟨rfl, rfl⟩)
  · have hB := if_n hB c1
    refine lv_iload_n hx hb dX5_hasGuess_4 rfl (lv_at hl 1 rfl) ?_
    refine lv_aload_n hx hb dX5_hasGuess_5 rfl (lv_at hl 0 rfl) ?_
    refine q_get (v := .int (s.v 3)) C inX5_hasGuess_X5 hK hP 2 rfl rfl 8 (by decide) rfl LX5_hasGuess_44 rfl dX5_hasGuess_6 ?_
    refine lv_icmp_ge (tgt := 16) hx hb dX5_hasGuess_9 (by decide) (fun c2 => ?_) (fun c2 => ?_)
    · have hB := if_p hB c2
      refine lv_iconst (v := 0) hx hb dX5_hasGuess_16 (by decide) ?_
      exact q_zret C hr hlocks (Or.inl rfl) hK hP hD hS (Nat.le_of_ble_eq_true rfl) (Nat.le_of_ble_eq_true rfl) dX5_hasGuess_17 (by cases hB; exact ⟨rfl, rfl⟩)
    · have hB := if_n hB c2
      refine lv_iconst (v := 1) hx hb dX5_hasGuess_12 (by decide) ?_
      refine lv_goto (tgt := 17) hx hb dX5_hasGuess_13 (by decide) ?_
      exact q_zret C hr hlocks (Or.inr rfl) hK hP hD hS (Nat.le_of_ble_eq_true rfl) (Nat.le_of_ble_eq_true rfl) dX5_hasGuess_17 (by cases hB; exact ⟨rfl, rfl⟩)
theorem ckX5_hasGuess {l : Launch} {dC : Nat → ClassId} {dI : Nat → Nat → Nat} {cB cI cJ cZ cS : ClassId} {a : Nat → Nat} {r : Int32} {s' : KS} {s : KS} {x1 : Int32} (hB : kX5_hasGuess s x1 = some (r, s')) : CI l yX5_hasGuess wsX5_hasGuess ({ frames := 0, cells := 0, slots := 0, locals := 0 }) (dC, dI) (tysA cB cI cJ cZ cS) (wK cB cI cJ cZ cS a s) [.ref (a 2), .int x1] (fun x u => x = r ∧ u = (wK cB cI cJ cZ cS a s')) :=
  CI_of (cc := cX5_hasGuess) (maxL := 2) (ret := (some .boolean)) (by decide) rfl (Nat.le_of_ble_eq_true rfl) (bkX5_hasGuess _ _ hB)
theorem LX5_oddsAt_9 : Cond.fieldLink RX5 9 "GuessFerry$Sound" "odds" "[I" ∈ wsX5_oddsAt := by decide +kernel
theorem inX5_oddsAt_X5 : ∀ w ∈ u_ws RX5 TX5 10, w ∈ wsX5_oddsAt := fun _ h => List.mem_cons_of_mem _ (List.mem_append_right _ h)
set_option maxHeartbeats 4000000 in
set_option maxRecDepth 100000 in
theorem bkX5_oddsAt {l : Launch} {dC : Nat → ClassId} {dI : Nat → Nat → Nat} {cB cI cJ cZ cS : ClassId} {a : Nat → Nat} {as : List Value} {r : Int32} {s' : KS} (s : KS) (x1 : Int32) (x2 : Int32) (hB : kX5_oddsAt s x1 x2 = some (r, s')) : BlkI l yX5_oddsAt wsX5_oddsAt ({ frames := 0, cells := 0, slots := 0, locals := 0 }) cX5_oddsAt 3 (some .int) (dC, dI) (tysA cB cI cJ cZ cS) as 0 (wK cB cI cJ cZ cS a s) [(0, .ref (a 2)), (1, .int x1), (2, .int x2)] [] (fun x u => x = r ∧ u = (wK cB cI cJ cZ cS a s')) := by
  intro p e s0 m below meth c A E H locs ls hP hD hS hl
  obtain ⟨C, hr, hlocks, hA, hK, hN⟩ := id E
  obtain ⟨hx, hb, hml, hown, hts⟩ := id C
  unfold kX5_oddsAt at hB
  refine lv_aload_n hx hb dX5_oddsAt_0 rfl (lv_at hl 0 rfl) ?_
  refine q_get (v := .ref (a 3)) C inX5_oddsAt_X5 hK hP 2 rfl rfl 0 (by decide) rfl LX5_oddsAt_9 rfl dX5_oddsAt_1 ?_
  refine lv_iload_n hx hb dX5_oddsAt_4 rfl (lv_at hl 1 rfl) ?_
  refine lv_bipush (v := 6) hx hb dX5_oddsAt_5 (by decide) ?_
  refine lv_imul hx hb dX5_oddsAt_7 ?_
  refine lv_iload_n hx hb dX5_oddsAt_8 rfl (lv_at hl 2 rfl) ?_
  refine lv_iadd hx hb dX5_oddsAt_9 ?_
  obtain ⟨g1, hB⟩ := guard_inv hB
  refine q_iald (x := ((s.f 3) (Int32.toNatClampNeg ((x1 * 6) + x2)))) C hK hP 3 1 rfl rfl (vpb_in g1) dX5_oddsAt_10 rfl ?_
  exact q_iret C hr hlocks hK hP hD hS (Nat.le_of_ble_eq_true rfl) (Nat.le_of_ble_eq_true rfl) dX5_oddsAt_11 (by cases hB; exact ⟨rfl, rfl⟩)
theorem ckX5_oddsAt {l : Launch} {dC : Nat → ClassId} {dI : Nat → Nat → Nat} {cB cI cJ cZ cS : ClassId} {a : Nat → Nat} {r : Int32} {s' : KS} {s : KS} {x1 : Int32} {x2 : Int32} (hB : kX5_oddsAt s x1 x2 = some (r, s')) : CI l yX5_oddsAt wsX5_oddsAt ({ frames := 0, cells := 0, slots := 0, locals := 0 }) (dC, dI) (tysA cB cI cJ cZ cS) (wK cB cI cJ cZ cS a s) [.ref (a 2), .int x1, .int x2] (fun x u => x = r ∧ u = (wK cB cI cJ cZ cS a s')) :=
  CI_of (cc := cX5_oddsAt) (maxL := 3) (ret := (some .int)) (by decide) rfl (Nat.le_of_ble_eq_true rfl) (bkX5_oddsAt _ _ _ hB)
