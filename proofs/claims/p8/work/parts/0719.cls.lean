theorem ggX3_remember_X6_copyFrom : GoodIn wsX3_remember wsX6_copyFrom := gi_sub (fun w h => List.mem_cons_of_mem _ (List.mem_append_left _ (List.mem_append_left _ (List.mem_append_right _ h)))) gd_wsX6_copyFrom
set_option maxRecDepth 20000 in
theorem gX3_remember_X6_copyFrom_n32 : GoodIn wsX3_remember (wsX6_copyFrom) := ggX3_remember_X6_copyFrom
theorem dX3_remember_0 : decode cX3_remember 0 = .ok (.aload_n 0, 1) := dc1_42 (by decide +kernel)
theorem dX3_remember_1 : decode cX3_remember 1 = .ok (.getfield 11, 3) := dcw_180 (by decide +kernel)
theorem dX3_remember_4 : decode cX3_remember 4 = .ok (.aload_n 0, 1) := dc1_42 (by decide +kernel)
theorem dX3_remember_5 : decode cX3_remember 5 = .ok (.getfield 29, 3) := dcw_180 (by decide +kernel)
theorem dX3_remember_8 : decode cX3_remember 8 = .ok (.aload_n 0, 1) := dc1_42 (by decide +kernel)
theorem dX3_remember_9 : decode cX3_remember 9 = .ok (.getfield 25, 3) := dcw_180 (by decide +kernel)
theorem dX3_remember_12 : decode cX3_remember 12 = .ok (.iadd, 1) := dc1_96 (by decide +kernel)
theorem dX3_remember_13 : decode cX3_remember 13 = .ok (.bipush 40, 2) := dcb_16 (n := 40) (by decide +kernel)
theorem dX3_remember_15 : decode cX3_remember 15 = .ok (.irem, 1) := dc1_112 (by decide +kernel)
theorem dX3_remember_16 : decode cX3_remember 16 = .ok (.aaload, 1) := dc1_50 (by decide +kernel)
theorem dX3_remember_17 : decode cX3_remember 17 = .ok (.aload_n 1, 1) := dc1_43 (by decide +kernel)
theorem dX3_remember_18 : decode cX3_remember 18 = .ok (.invokevirtual 32, 3) := dcw_182 (by decide +kernel)
theorem dX3_remember_21 : decode cX3_remember 21 = .ok (.aload_n 0, 1) := dc1_42 (by decide +kernel)
theorem dX3_remember_22 : decode cX3_remember 22 = .ok (.getfield 25, 3) := dcw_180 (by decide +kernel)
theorem dX3_remember_25 : decode cX3_remember 25 = .ok (.bipush 40, 2) := dcb_16 (n := 40) (by decide +kernel)
theorem dX3_remember_27 : decode cX3_remember 27 = .ok (.if_icmp .ge 16, 3) := dcs_162 (n := 16) (by decide +kernel)
theorem dX3_remember_30 : decode cX3_remember 30 = .ok (.aload_n 0, 1) := dc1_42 (by decide +kernel)
theorem dX3_remember_31 : decode cX3_remember 31 = .ok (.dup, 1) := dc1_89 (by decide +kernel)
theorem dX3_remember_32 : decode cX3_remember 32 = .ok (.getfield 25, 3) := dcw_180 (by decide +kernel)
theorem dX3_remember_35 : decode cX3_remember 35 = .ok (.iconst 1, 1) := dc1_4 (by decide +kernel)
theorem dX3_remember_36 : decode cX3_remember 36 = .ok (.iadd, 1) := dc1_96 (by decide +kernel)
theorem dX3_remember_37 : decode cX3_remember 37 = .ok (.putfield 25, 3) := dcw_181 (by decide +kernel)
theorem dX3_remember_40 : decode cX3_remember 40 = .ok (.goto 16, 3) := dcs_167 (n := 16) (by decide +kernel)
theorem dX3_remember_43 : decode cX3_remember 43 = .ok (.aload_n 0, 1) := dc1_42 (by decide +kernel)
theorem dX3_remember_44 : decode cX3_remember 44 = .ok (.aload_n 0, 1) := dc1_42 (by decide +kernel)
theorem dX3_remember_45 : decode cX3_remember 45 = .ok (.getfield 29, 3) := dcw_180 (by decide +kernel)
theorem dX3_remember_48 : decode cX3_remember 48 = .ok (.iconst 1, 1) := dc1_4 (by decide +kernel)
theorem dX3_remember_49 : decode cX3_remember 49 = .ok (.iadd, 1) := dc1_96 (by decide +kernel)
theorem dX3_remember_50 : decode cX3_remember 50 = .ok (.bipush 40, 2) := dcb_16 (n := 40) (by decide +kernel)
theorem dX3_remember_52 : decode cX3_remember 52 = .ok (.irem, 1) := dc1_112 (by decide +kernel)
theorem dX3_remember_53 : decode cX3_remember 53 = .ok (.putfield 29, 3) := dcw_181 (by decide +kernel)
theorem dX3_remember_56 : decode cX3_remember 56 = .ok (.return_, 1) := dc1_177 (by decide +kernel)
theorem ggX3_takeBack_X6_copyFrom : GoodIn wsX3_takeBack wsX6_copyFrom := gi_sub (fun w h => List.mem_cons_of_mem _ (List.mem_append_left _ (List.mem_append_left _ (List.mem_append_right _ h)))) gd_wsX6_copyFrom
set_option maxRecDepth 20000 in
theorem gX3_takeBack_X6_copyFrom_n32 : GoodIn wsX3_takeBack (wsX6_copyFrom) := ggX3_takeBack_X6_copyFrom
theorem dX3_takeBack_0 : decode cX3_takeBack 0 = .ok (.aload_n 0, 1) := dc1_42 (by decide +kernel)
theorem dX3_takeBack_1 : decode cX3_takeBack 1 = .ok (.getfield 25, 3) := dcw_180 (by decide +kernel)
theorem dX3_takeBack_4 : decode cX3_takeBack 4 = .ok (.ifCond .ne 5, 3) := dcs_154 (n := 5) (by decide +kernel)
theorem dX3_takeBack_7 : decode cX3_takeBack 7 = .ok (.iconst 0, 1) := dc1_3 (by decide +kernel)
theorem dX3_takeBack_8 : decode cX3_takeBack 8 = .ok (.ireturn, 1) := dc1_172 (by decide +kernel)
theorem dX3_takeBack_9 : decode cX3_takeBack 9 = .ok (.aload_n 0, 1) := dc1_42 (by decide +kernel)
theorem dX3_takeBack_10 : decode cX3_takeBack 10 = .ok (.dup, 1) := dc1_89 (by decide +kernel)
theorem dX3_takeBack_11 : decode cX3_takeBack 11 = .ok (.getfield 25, 3) := dcw_180 (by decide +kernel)
theorem dX3_takeBack_14 : decode cX3_takeBack 14 = .ok (.iconst 1, 1) := dc1_4 (by decide +kernel)
theorem dX3_takeBack_15 : decode cX3_takeBack 15 = .ok (.isub, 1) := dc1_100 (by decide +kernel)
theorem dX3_takeBack_16 : decode cX3_takeBack 16 = .ok (.putfield 25, 3) := dcw_181 (by decide +kernel)
theorem dX3_takeBack_19 : decode cX3_takeBack 19 = .ok (.aload_n 1, 1) := dc1_43 (by decide +kernel)
theorem dX3_takeBack_20 : decode cX3_takeBack 20 = .ok (.aload_n 0, 1) := dc1_42 (by decide +kernel)
theorem dX3_takeBack_21 : decode cX3_takeBack 21 = .ok (.getfield 11, 3) := dcw_180 (by decide +kernel)
theorem dX3_takeBack_24 : decode cX3_takeBack 24 = .ok (.aload_n 0, 1) := dc1_42 (by decide +kernel)
theorem dX3_takeBack_25 : decode cX3_takeBack 25 = .ok (.getfield 29, 3) := dcw_180 (by decide +kernel)
theorem dX3_takeBack_28 : decode cX3_takeBack 28 = .ok (.aload_n 0, 1) := dc1_42 (by decide +kernel)
theorem dX3_takeBack_29 : decode cX3_takeBack 29 = .ok (.getfield 25, 3) := dcw_180 (by decide +kernel)
theorem dX3_takeBack_32 : decode cX3_takeBack 32 = .ok (.iadd, 1) := dc1_96 (by decide +kernel)
theorem dX3_takeBack_33 : decode cX3_takeBack 33 = .ok (.bipush 40, 2) := dcb_16 (n := 40) (by decide +kernel)
theorem dX3_takeBack_35 : decode cX3_takeBack 35 = .ok (.irem, 1) := dc1_112 (by decide +kernel)
theorem dX3_takeBack_36 : decode cX3_takeBack 36 = .ok (.aaload, 1) := dc1_50 (by decide +kernel)
theorem dX3_takeBack_37 : decode cX3_takeBack 37 = .ok (.invokevirtual 32, 3) := dcw_182 (by decide +kernel)
theorem dX3_takeBack_40 : decode cX3_takeBack 40 = .ok (.iconst 1, 1) := dc1_4 (by decide +kernel)
theorem dX3_takeBack_41 : decode cX3_takeBack 41 = .ok (.ireturn, 1) := dc1_172 (by decide +kernel)
theorem ggX3_keepIn_X6_copyFrom : GoodIn wsX3_keepIn wsX6_copyFrom := gi_sub (fun w h => List.mem_cons_of_mem _ (List.mem_append_left _ (List.mem_append_left _ (List.mem_append_right _ h)))) gd_wsX6_copyFrom
set_option maxRecDepth 20000 in
theorem gX3_keepIn_X6_copyFrom_n32 : GoodIn wsX3_keepIn (wsX6_copyFrom) := ggX3_keepIn_X6_copyFrom
theorem dX3_keepIn_0 : decode cX3_keepIn 0 = .ok (.iload_n 1, 1) := dc1_27 (by decide +kernel)
theorem dX3_keepIn_1 : decode cX3_keepIn 1 = .ok (.ifCond .lt 8, 3) := dcs_155 (n := 8) (by decide +kernel)
theorem dX3_keepIn_4 : decode cX3_keepIn 4 = .ok (.iload_n 1, 1) := dc1_27 (by decide +kernel)
theorem dX3_keepIn_5 : decode cX3_keepIn 5 = .ok (.iconst 3, 1) := dc1_6 (by decide +kernel)
theorem dX3_keepIn_6 : decode cX3_keepIn 6 = .ok (.if_icmp .lt 5, 3) := dcs_161 (n := 5) (by decide +kernel)
theorem dX3_keepIn_9 : decode cX3_keepIn 9 = .ok (.iconst 0, 1) := dc1_3 (by decide +kernel)
theorem dX3_keepIn_10 : decode cX3_keepIn 10 = .ok (.ireturn, 1) := dc1_172 (by decide +kernel)
theorem dX3_keepIn_11 : decode cX3_keepIn 11 = .ok (.aload_n 0, 1) := dc1_42 (by decide +kernel)
theorem dX3_keepIn_12 : decode cX3_keepIn 12 = .ok (.getfield 17, 3) := dcw_180 (by decide +kernel)
theorem dX3_keepIn_15 : decode cX3_keepIn 15 = .ok (.iload_n 1, 1) := dc1_27 (by decide +kernel)
theorem dX3_keepIn_16 : decode cX3_keepIn 16 = .ok (.aaload, 1) := dc1_50 (by decide +kernel)
theorem dX3_keepIn_17 : decode cX3_keepIn 17 = .ok (.aload_n 2, 1) := dc1_44 (by decide +kernel)
theorem dX3_keepIn_18 : decode cX3_keepIn 18 = .ok (.invokevirtual 32, 3) := dcw_182 (by decide +kernel)
theorem dX3_keepIn_21 : decode cX3_keepIn 21 = .ok (.aload_n 0, 1) := dc1_42 (by decide +kernel)
theorem dX3_keepIn_22 : decode cX3_keepIn 22 = .ok (.getfield 20, 3) := dcw_180 (by decide +kernel)
theorem dX3_keepIn_25 : decode cX3_keepIn 25 = .ok (.iload_n 1, 1) := dc1_27 (by decide +kernel)
theorem dX3_keepIn_26 : decode cX3_keepIn 26 = .ok (.iconst 1, 1) := dc1_4 (by decide +kernel)
theorem dX3_keepIn_27 : decode cX3_keepIn 27 = .ok (.bastore, 1) := dc1_84 (by decide +kernel)
theorem dX3_keepIn_28 : decode cX3_keepIn 28 = .ok (.iconst 1, 1) := dc1_4 (by decide +kernel)
theorem dX3_keepIn_29 : decode cX3_keepIn 29 = .ok (.ireturn, 1) := dc1_172 (by decide +kernel)
theorem ggX3_goOnFrom_X6_copyFrom : GoodIn wsX3_goOnFrom wsX6_copyFrom := gi_sub (fun w h => List.mem_cons_of_mem _ (List.mem_append_left _ (List.mem_append_left _ (List.mem_append_right _ h)))) gd_wsX6_copyFrom
set_option maxRecDepth 20000 in
theorem gX3_goOnFrom_X6_copyFrom_n32 : GoodIn wsX3_goOnFrom (wsX6_copyFrom) := ggX3_goOnFrom_X6_copyFrom
theorem dX3_goOnFrom_0 : decode cX3_goOnFrom 0 = .ok (.iload_n 1, 1) := dc1_27 (by decide +kernel)
theorem dX3_goOnFrom_1 : decode cX3_goOnFrom 1 = .ok (.ifCond .lt 17, 3) := dcs_155 (n := 17) (by decide +kernel)
theorem dX3_goOnFrom_4 : decode cX3_goOnFrom 4 = .ok (.iload_n 1, 1) := dc1_27 (by decide +kernel)
theorem dX3_goOnFrom_5 : decode cX3_goOnFrom 5 = .ok (.iconst 3, 1) := dc1_6 (by decide +kernel)
theorem dX3_goOnFrom_6 : decode cX3_goOnFrom 6 = .ok (.if_icmp .ge 12, 3) := dcs_162 (n := 12) (by decide +kernel)
theorem dX3_goOnFrom_9 : decode cX3_goOnFrom 9 = .ok (.aload_n 0, 1) := dc1_42 (by decide +kernel)
theorem dX3_goOnFrom_10 : decode cX3_goOnFrom 10 = .ok (.getfield 20, 3) := dcw_180 (by decide +kernel)
theorem dX3_goOnFrom_13 : decode cX3_goOnFrom 13 = .ok (.iload_n 1, 1) := dc1_27 (by decide +kernel)
theorem dX3_goOnFrom_14 : decode cX3_goOnFrom 14 = .ok (.baload, 1) := dc1_51 (by decide +kernel)
theorem dX3_goOnFrom_15 : decode cX3_goOnFrom 15 = .ok (.ifCond .ne 5, 3) := dcs_154 (n := 5) (by decide +kernel)
theorem dX3_goOnFrom_18 : decode cX3_goOnFrom 18 = .ok (.iconst 0, 1) := dc1_3 (by decide +kernel)
theorem dX3_goOnFrom_19 : decode cX3_goOnFrom 19 = .ok (.ireturn, 1) := dc1_172 (by decide +kernel)
theorem dX3_goOnFrom_20 : decode cX3_goOnFrom 20 = .ok (.aload_n 2, 1) := dc1_44 (by decide +kernel)
theorem dX3_goOnFrom_21 : decode cX3_goOnFrom 21 = .ok (.aload_n 0, 1) := dc1_42 (by decide +kernel)
theorem dX3_goOnFrom_22 : decode cX3_goOnFrom 22 = .ok (.getfield 17, 3) := dcw_180 (by decide +kernel)
theorem dX3_goOnFrom_25 : decode cX3_goOnFrom 25 = .ok (.iload_n 1, 1) := dc1_27 (by decide +kernel)
theorem dX3_goOnFrom_26 : decode cX3_goOnFrom 26 = .ok (.aaload, 1) := dc1_50 (by decide +kernel)
theorem dX3_goOnFrom_27 : decode cX3_goOnFrom 27 = .ok (.invokevirtual 32, 3) := dcw_182 (by decide +kernel)
theorem dX3_goOnFrom_30 : decode cX3_goOnFrom 30 = .ok (.aload_n 0, 1) := dc1_42 (by decide +kernel)
theorem dX3_goOnFrom_31 : decode cX3_goOnFrom 31 = .ok (.iconst 0, 1) := dc1_3 (by decide +kernel)
theorem dX3_goOnFrom_32 : decode cX3_goOnFrom 32 = .ok (.putfield 25, 3) := dcw_181 (by decide +kernel)
theorem dX3_goOnFrom_35 : decode cX3_goOnFrom 35 = .ok (.iconst 1, 1) := dc1_4 (by decide +kernel)
theorem dX3_goOnFrom_36 : decode cX3_goOnFrom 36 = .ok (.ireturn, 1) := dc1_172 (by decide +kernel)
set_option maxRecDepth 20000 in
theorem ggX4_readUnit_X4_isAt : GoodIn wsX4_readUnit wsX4_isAt := goodIn_r _ [8, 9, 1, 2, 46, 47, 48, 49, 50, 51, 52, 53, 54, 55, 56, 57, 58, 59, 60] (by decide +kernel) (by decide +kernel)
set_option maxRecDepth 20000 in
theorem gX4_readUnit_X4_isAt : GoodIn wsX4_readUnit (wsV RX4 53 RX4 yX4_isAt wsX4_isAt) := goodIn_app (goodIn_of _ (by decide +kernel)) ggX4_readUnit_X4_isAt
set_option maxRecDepth 20000 in
theorem ggX4_readUnit_X1_putNumber : GoodIn wsX4_readUnit wsX1_putNumber := goodIn_r _ [13, 14, 15, 16, 11, 17, 18, 19, 71, 72, 73, 74, 75, 76, 77, 78, 79] (by decide +kernel) (by decide +kernel)
set_option maxRecDepth 20000 in
theorem gX4_readUnit_X1_putNumber_n146 : GoodIn wsX4_readUnit (wsX1_putNumber) := ggX4_readUnit_X1_putNumber
set_option maxRecDepth 20000 in
theorem ggX4_readUnit_X4_take : GoodIn wsX4_readUnit wsX4_take := goodIn_r _ [23, 2, 4, 5, 6, 7, 8, 9, 1, 24, 25, 26, 27, 28, 46, 47, 48, 49, 50, 51, 52, 53, 54, 55, 56, 57, 58, 59, 60] (by decide +kernel) (by decide +kernel)
set_option maxRecDepth 20000 in
theorem gX4_readUnit_X4_take : GoodIn wsX4_readUnit (wsV RX4 81 RX4 yX4_take wsX4_take) := goodIn_app (goodIn_of _ (by decide +kernel)) ggX4_readUnit_X4_take
set_option maxRecDepth 20000 in
theorem ggX4_readUnit_X1_putVar : GoodIn wsX4_readUnit wsX1_putVar := goodIn_r _ [31, 14, 15, 16, 11, 17, 18, 19, 71, 72, 73, 74, 75, 76, 77, 78, 79] (by decide +kernel) (by decide +kernel)
set_option maxRecDepth 20000 in
theorem gX4_readUnit_X1_putVar_n149 : GoodIn wsX4_readUnit (wsX1_putVar) := ggX4_readUnit_X1_putVar
set_option maxRecDepth 20000 in
theorem ggX4_readUnit_X4_fail : GoodIn wsX4_readUnit wsX4_fail := goodIn_r _ [27, 9, 1, 2, 28, 46, 47, 48, 49, 50, 51, 52, 53, 54, 55, 56, 57, 58, 59, 60] (by decide +kernel) (by decide +kernel)
set_option maxRecDepth 20000 in
theorem gX4_readUnit_X4_fail : GoodIn wsX4_readUnit (wsV RX4 70 RX4 yX4_fail wsX4_fail) := goodIn_app (goodIn_of _ (by decide +kernel)) ggX4_readUnit_X4_fail
set_option maxRecDepth 20000 in
theorem ggX4_readUnit_X4_readSum : GoodIn wsX4_readUnit wsX4_readSum := goodIn_r _ [42, 1, 2, 3, 43, 44, 45, 7, 4, 5, 6, 8, 9, 20, 21, 22, 23, 24, 25, 26, 27, 28, 39, 11, 40, 41, 14, 15, 16, 17, 18, 19, 35, 36, 37, 38, 0, 10, 12, 13, 29, 30, 31, 32, 33, 34, 46, 47, 48, 49, 50, 51, 52, 53, 54, 55, 56, 57, 58, 59, 60, 61, 62, 63, 64, 65, 66, 67, 68, 69, 70, 71, 72, 73, 74, 75, 76, 77, 78, 79] (by decide +kernel) (by decide +kernel)
set_option maxRecDepth 20000 in
theorem gX4_readUnit_X4_readSum : GoodIn wsX4_readUnit (wsV RX4 131 RX4 yX4_readSum wsX4_readSum) := goodIn_app (goodIn_of _ (by decide +kernel)) ggX4_readUnit_X4_readSum
theorem dX4_readUnit_0 : decode cX4_readUnit 0 = .ok (.aload_n 0, 1) := dc1_42 (by decide +kernel)
theorem dX4_readUnit_1 : decode cX4_readUnit 1 = .ok (.getfield 31, 3) := dcw_180 (by decide +kernel)
theorem dX4_readUnit_4 : decode cX4_readUnit 4 = .ok (.getfield 63, 3) := dcw_180 (by decide +kernel)
theorem dX4_readUnit_7 : decode cX4_readUnit 7 = .ok (.aload_n 0, 1) := dc1_42 (by decide +kernel)
theorem dX4_readUnit_8 : decode cX4_readUnit 8 = .ok (.getfield 38, 3) := dcw_180 (by decide +kernel)
theorem dX4_readUnit_11 : decode cX4_readUnit 11 = .ok (.iaload, 1) := dc1_46 (by decide +kernel)
theorem dX4_readUnit_12 : decode cX4_readUnit 12 = .ok (.istore_n 2, 1) := dc1_61 (by decide +kernel)
theorem dX4_readUnit_13 : decode cX4_readUnit 13 = .ok (.iload_n 2, 1) := dc1_28 (by decide +kernel)
theorem dX4_readUnit_14 : decode cX4_readUnit 14 = .ok (.sipush 266, 3) := dcs_17 (n := 266) (by decide +kernel)
theorem dX4_readUnit_17 : decode cX4_readUnit 17 = .ok (.isub, 1) := dc1_100 (by decide +kernel)
theorem dX4_readUnit_18 : decode cX4_readUnit 18 = .ok (.istore_n 3, 1) := dc1_62 (by decide +kernel)
theorem dX4_readUnit_19 : decode cX4_readUnit 19 = .ok (.aload_n 0, 1) := dc1_42 (by decide +kernel)
theorem dX4_readUnit_20 : decode cX4_readUnit 20 = .ok (.sipush 301, 3) := dcs_17 (n := 301) (by decide +kernel)
theorem dX4_readUnit_23 : decode cX4_readUnit 23 = .ok (.invokevirtual 53, 3) := dcw_182 (by decide +kernel)
theorem dX4_readUnit_26 : decode cX4_readUnit 26 = .ok (.ifCond .eq 36, 3) := dcs_153 (n := 36) (by decide +kernel)
theorem dX4_readUnit_29 : decode cX4_readUnit 29 = .ok (.aload_n 0, 1) := dc1_42 (by decide +kernel)
theorem dX4_readUnit_30 : decode cX4_readUnit 30 = .ok (.getfield 12, 3) := dcw_180 (by decide +kernel)
theorem dX4_readUnit_33 : decode cX4_readUnit 33 = .ok (.getfield 119, 3) := dcw_180 (by decide +kernel)
theorem dX4_readUnit_36 : decode cX4_readUnit 36 = .ok (.aload_n 0, 1) := dc1_42 (by decide +kernel)
theorem dX4_readUnit_37 : decode cX4_readUnit 37 = .ok (.getfield 31, 3) := dcw_180 (by decide +kernel)
theorem dX4_readUnit_40 : decode cX4_readUnit 40 = .ok (.getfield 74, 3) := dcw_180 (by decide +kernel)
theorem dX4_readUnit_43 : decode cX4_readUnit 43 = .ok (.aload_n 0, 1) := dc1_42 (by decide +kernel)
theorem dX4_readUnit_44 : decode cX4_readUnit 44 = .ok (.getfield 38, 3) := dcw_180 (by decide +kernel)
theorem dX4_readUnit_47 : decode cX4_readUnit 47 = .ok (.laload, 1) := dc1_47 (by decide +kernel)
theorem dX4_readUnit_48 : decode cX4_readUnit 48 = .ok (.l2i, 1) := dc1_136 (by decide +kernel)
theorem dX4_readUnit_49 : decode cX4_readUnit 49 = .ok (.invokevirtual 146, 3) := dcw_182 (by decide +kernel)
theorem dX4_readUnit_52 : decode cX4_readUnit 52 = .ok (.aload_n 0, 1) := dc1_42 (by decide +kernel)
theorem dX4_readUnit_53 : decode cX4_readUnit 53 = .ok (.sipush 301, 3) := dcs_17 (n := 301) (by decide +kernel)
theorem dX4_readUnit_56 : decode cX4_readUnit 56 = .ok (.invokevirtual 81, 3) := dcw_182 (by decide +kernel)
theorem dX4_readUnit_59 : decode cX4_readUnit 59 = .ok (.goto 91, 3) := dcs_167 (n := 91) (by decide +kernel)
theorem dX4_readUnit_62 : decode cX4_readUnit 62 = .ok (.iload_n 3, 1) := dc1_29 (by decide +kernel)
theorem dX4_readUnit_63 : decode cX4_readUnit 63 = .ok (.ifCond .lt 28, 3) := dcs_155 (n := 28) (by decide +kernel)
theorem dX4_readUnit_66 : decode cX4_readUnit 66 = .ok (.iload_n 3, 1) := dc1_29 (by decide +kernel)
theorem dX4_readUnit_67 : decode cX4_readUnit 67 = .ok (.bipush 9, 2) := dcb_16 (n := 9) (by decide +kernel)
theorem dX4_readUnit_69 : decode cX4_readUnit 69 = .ok (.if_icmp .ge 22, 3) := dcs_162 (n := 22) (by decide +kernel)
theorem dX4_readUnit_72 : decode cX4_readUnit 72 = .ok (.aload_n 0, 1) := dc1_42 (by decide +kernel)
theorem dX4_readUnit_73 : decode cX4_readUnit 73 = .ok (.getfield 12, 3) := dcw_180 (by decide +kernel)
theorem dX4_readUnit_76 : decode cX4_readUnit 76 = .ok (.getfield 119, 3) := dcw_180 (by decide +kernel)
theorem dX4_readUnit_79 : decode cX4_readUnit 79 = .ok (.iload_n 3, 1) := dc1_29 (by decide +kernel)
theorem dX4_readUnit_80 : decode cX4_readUnit 80 = .ok (.invokevirtual 149, 3) := dcw_182 (by decide +kernel)
theorem dX4_readUnit_83 : decode cX4_readUnit 83 = .ok (.aload_n 0, 1) := dc1_42 (by decide +kernel)
theorem dX4_readUnit_84 : decode cX4_readUnit 84 = .ok (.iload_n 2, 1) := dc1_28 (by decide +kernel)
theorem dX4_readUnit_85 : decode cX4_readUnit 85 = .ok (.invokevirtual 81, 3) := dcw_182 (by decide +kernel)
theorem dX4_readUnit_88 : decode cX4_readUnit 88 = .ok (.goto 62, 3) := dcs_167 (n := 62) (by decide +kernel)
theorem dX4_readUnit_91 : decode cX4_readUnit 91 = .ok (.aload_n 0, 1) := dc1_42 (by decide +kernel)
theorem dX4_readUnit_92 : decode cX4_readUnit 92 = .ok (.bipush 40, 2) := dcb_16 (n := 40) (by decide +kernel)
theorem dX4_readUnit_94 : decode cX4_readUnit 94 = .ok (.invokevirtual 53, 3) := dcw_182 (by decide +kernel)
theorem dX4_readUnit_97 : decode cX4_readUnit 97 = .ok (.ifCond .eq 17, 3) := dcs_153 (n := 17) (by decide +kernel)
theorem dX4_readUnit_100 : decode cX4_readUnit 100 = .ok (.iload_n 1, 1) := dc1_27 (by decide +kernel)
theorem dX4_readUnit_101 : decode cX4_readUnit 101 = .ok (.bipush 6, 2) := dcb_16 (n := 6) (by decide +kernel)
theorem dX4_readUnit_103 : decode cX4_readUnit 103 = .ok (.if_icmp .lt 11, 3) := dcs_161 (n := 11) (by decide +kernel)
theorem dX4_readUnit_106 : decode cX4_readUnit 106 = .ok (.aload_n 0, 1) := dc1_42 (by decide +kernel)
theorem dX4_readUnit_107 : decode cX4_readUnit 107 = .ok (.iconst 2, 1) := dc1_5 (by decide +kernel)
theorem dX4_readUnit_108 : decode cX4_readUnit 108 = .ok (.invokevirtual 70, 3) := dcw_182 (by decide +kernel)
theorem dX4_readUnit_111 : decode cX4_readUnit 111 = .ok (.goto 39, 3) := dcs_167 (n := 39) (by decide +kernel)
theorem dX4_readUnit_114 : decode cX4_readUnit 114 = .ok (.aload_n 0, 1) := dc1_42 (by decide +kernel)
theorem dX4_readUnit_115 : decode cX4_readUnit 115 = .ok (.bipush 40, 2) := dcb_16 (n := 40) (by decide +kernel)
theorem dX4_readUnit_117 : decode cX4_readUnit 117 = .ok (.invokevirtual 53, 3) := dcw_182 (by decide +kernel)
theorem dX4_readUnit_120 : decode cX4_readUnit 120 = .ok (.ifCond .eq 25, 3) := dcs_153 (n := 25) (by decide +kernel)
theorem dX4_readUnit_123 : decode cX4_readUnit 123 = .ok (.aload_n 0, 1) := dc1_42 (by decide +kernel)
theorem dX4_readUnit_124 : decode cX4_readUnit 124 = .ok (.bipush 40, 2) := dcb_16 (n := 40) (by decide +kernel)
theorem dX4_readUnit_126 : decode cX4_readUnit 126 = .ok (.invokevirtual 81, 3) := dcw_182 (by decide +kernel)
theorem dX4_readUnit_129 : decode cX4_readUnit 129 = .ok (.aload_n 0, 1) := dc1_42 (by decide +kernel)
theorem dX4_readUnit_130 : decode cX4_readUnit 130 = .ok (.iload_n 1, 1) := dc1_27 (by decide +kernel)
theorem dX4_readUnit_131 : decode cX4_readUnit 131 = .ok (.iconst 1, 1) := dc1_4 (by decide +kernel)
theorem dX4_readUnit_132 : decode cX4_readUnit 132 = .ok (.iadd, 1) := dc1_96 (by decide +kernel)
theorem dX4_readUnit_133 : decode cX4_readUnit 133 = .ok (.invokevirtual 131, 3) := dcw_182 (by decide +kernel)
theorem dX4_readUnit_136 : decode cX4_readUnit 136 = .ok (.aload_n 0, 1) := dc1_42 (by decide +kernel)
theorem dX4_readUnit_137 : decode cX4_readUnit 137 = .ok (.bipush 41, 2) := dcb_16 (n := 41) (by decide +kernel)
theorem dX4_readUnit_139 : decode cX4_readUnit 139 = .ok (.invokevirtual 81, 3) := dcw_182 (by decide +kernel)
theorem dX4_readUnit_142 : decode cX4_readUnit 142 = .ok (.goto 8, 3) := dcs_167 (n := 8) (by decide +kernel)
theorem dX4_readUnit_145 : decode cX4_readUnit 145 = .ok (.aload_n 0, 1) := dc1_42 (by decide +kernel)
theorem dX4_readUnit_146 : decode cX4_readUnit 146 = .ok (.iconst 1, 1) := dc1_4 (by decide +kernel)
theorem dX4_readUnit_147 : decode cX4_readUnit 147 = .ok (.invokevirtual 70, 3) := dcw_182 (by decide +kernel)
theorem dX4_readUnit_150 : decode cX4_readUnit 150 = .ok (.return_, 1) := dc1_177 (by decide +kernel)
theorem ggJ0_length_8abf5_J0_coder_7d493 : GoodIn wsJ0_length_8abf5 wsJ0_coder_7d493 := gi_sub (fun w h => List.mem_cons_of_mem _ (List.mem_append_right _ h)) gd_wsJ0_coder_7d493
set_option maxRecDepth 20000 in
theorem gJ0_length_8abf5_J0_coder_7d493 : GoodIn wsJ0_length_8abf5 (wsV RJ0 335 RJ0 yJ0_coder_7d493 wsJ0_coder_7d493) := goodIn_app (goodIn_r _ [2, 3, 4, 5] (by decide +kernel) (by decide +kernel)) ggJ0_length_8abf5_J0_coder_7d493
theorem dJ0_length_8abf5_0 : decode cJ0_length_8abf5 0 = .ok (.aload_n 0, 1) := dc1_42 (by decide +kernel)
theorem dJ0_length_8abf5_1 : decode cJ0_length_8abf5 1 = .ok (.getfield 9, 3) := dcw_180 (by decide +kernel)
theorem dJ0_length_8abf5_4 : decode cJ0_length_8abf5 4 = .ok (.arraylength, 1) := dc1_190 (by decide +kernel)
theorem dJ0_length_8abf5_5 : decode cJ0_length_8abf5 5 = .ok (.aload_n 0, 1) := dc1_42 (by decide +kernel)
theorem dJ0_length_8abf5_6 : decode cJ0_length_8abf5 6 = .ok (.invokevirtual 335, 3) := dcw_182 (by decide +kernel)
theorem dJ0_length_8abf5_9 : decode cJ0_length_8abf5 9 = .ok (.ishr, 1) := dc1_122 (by decide +kernel)
theorem dJ0_length_8abf5_10 : decode cJ0_length_8abf5 10 = .ok (.ireturn, 1) := dc1_172 (by decide +kernel)
theorem ggJ0_indexOf_0f7a4_J0_indexOf_7cf53 : GoodIn wsJ0_indexOf_0f7a4 wsJ0_indexOf_7cf53 := gi_sub (fun w h => List.mem_cons_of_mem _ (List.mem_append_right _ h)) gd_wsJ0_indexOf_7cf53
set_option maxRecDepth 20000 in
theorem gJ0_indexOf_0f7a4_J0_indexOf_7cf53 : GoodIn wsJ0_indexOf_0f7a4 (wsV RJ0 633 RJ0 yJ0_indexOf_7cf53 wsJ0_indexOf_7cf53) := goodIn_app (goodIn_r _ [1, 2, 3, 4] (by decide +kernel) (by decide +kernel)) ggJ0_indexOf_0f7a4_J0_indexOf_7cf53
theorem dJ0_indexOf_0f7a4_0 : decode cJ0_indexOf_0f7a4 0 = .ok (.aload_n 0, 1) := dc1_42 (by decide +kernel)
theorem dJ0_indexOf_0f7a4_1 : decode cJ0_indexOf_0f7a4 1 = .ok (.iload_n 1, 1) := dc1_27 (by decide +kernel)
theorem dJ0_indexOf_0f7a4_2 : decode cJ0_indexOf_0f7a4 2 = .ok (.iconst 0, 1) := dc1_3 (by decide +kernel)
theorem dJ0_indexOf_0f7a4_3 : decode cJ0_indexOf_0f7a4 3 = .ok (.invokevirtual 633, 3) := dcw_182 (by decide +kernel)
theorem dJ0_indexOf_0f7a4_6 : decode cJ0_indexOf_0f7a4 6 = .ok (.ireturn, 1) := dc1_172 (by decide +kernel)
theorem ggJ0_indexOf_7cf53_J0_isLatin1_aae02 : GoodIn wsJ0_indexOf_7cf53 wsJ0_isLatin1_aae02 := gi_sub (fun w h => List.mem_cons_of_mem _ (List.mem_append_right _ (List.mem_append_left _ h))) gd_wsJ0_isLatin1_aae02
set_option maxRecDepth 20000 in
theorem gJ0_indexOf_7cf53_J0_isLatin1_aae02 : GoodIn wsJ0_indexOf_7cf53 (wsV RJ0 492 RJ0 yJ0_isLatin1_aae02 wsJ0_isLatin1_aae02) := goodIn_app (goodIn_r _ [2, 3, 4, 5] (by decide +kernel) (by decide +kernel)) ggJ0_indexOf_7cf53_J0_isLatin1_aae02
theorem ggJ0_indexOf_7cf53_J0_length_8abf5 : GoodIn wsJ0_indexOf_7cf53 wsJ0_length_8abf5 := gi_sub (fun w h => List.mem_cons_of_mem _ (List.mem_append_right _ (List.mem_append_right _ (List.mem_append_left _ h)))) gd_wsJ0_length_8abf5
set_option maxRecDepth 20000 in
theorem gJ0_indexOf_7cf53_J0_length_8abf5 : GoodIn wsJ0_indexOf_7cf53 (wsV RJ0 505 RJ0 yJ0_length_8abf5 wsJ0_length_8abf5) := goodIn_app (goodIn_r _ [6, 7, 8, 5] (by decide +kernel) (by decide +kernel)) ggJ0_indexOf_7cf53_J0_length_8abf5
theorem ggJ0_indexOf_7cf53_J1_indexOf_4cfef : GoodIn wsJ0_indexOf_7cf53 wsJ1_indexOf_4cfef := gi_sub (fun w h => List.mem_cons_of_mem _ (List.mem_append_right _ (List.mem_append_right _ (List.mem_append_right _ (List.mem_append_left _ h))))) gd_wsJ1_indexOf_4cfef
set_option maxRecDepth 20000 in
theorem gJ0_indexOf_7cf53_J1_indexOf_4cfef : GoodIn wsJ0_indexOf_7cf53 (va_wsS RJ0 637 yJ1_indexOf_4cfef wsJ1_indexOf_4cfef) := goodIn_app (goodIn_of _ (by decide +kernel)) ggJ0_indexOf_7cf53_J1_indexOf_4cfef
theorem dJ0_indexOf_7cf53_0 : decode cJ0_indexOf_7cf53 0 = .ok (.aload_n 0, 1) := dc1_42 (by decide +kernel)
theorem dJ0_indexOf_7cf53_1 : decode cJ0_indexOf_7cf53 1 = .ok (.invokevirtual 492, 3) := dcw_182 (by decide +kernel)
theorem dJ0_indexOf_7cf53_4 : decode cJ0_indexOf_7cf53 4 = .ok (.ifCond .eq 19, 3) := dcs_153 (n := 19) (by decide +kernel)
theorem dJ0_indexOf_7cf53_7 : decode cJ0_indexOf_7cf53 7 = .ok (.aload_n 0, 1) := dc1_42 (by decide +kernel)
theorem dJ0_indexOf_7cf53_8 : decode cJ0_indexOf_7cf53 8 = .ok (.getfield 9, 3) := dcw_180 (by decide +kernel)
theorem dJ0_indexOf_7cf53_11 : decode cJ0_indexOf_7cf53 11 = .ok (.iload_n 1, 1) := dc1_27 (by decide +kernel)
theorem dJ0_indexOf_7cf53_12 : decode cJ0_indexOf_7cf53 12 = .ok (.iload_n 2, 1) := dc1_28 (by decide +kernel)
theorem dJ0_indexOf_7cf53_13 : decode cJ0_indexOf_7cf53 13 = .ok (.aload_n 0, 1) := dc1_42 (by decide +kernel)
theorem dJ0_indexOf_7cf53_14 : decode cJ0_indexOf_7cf53 14 = .ok (.invokevirtual 505, 3) := dcw_182 (by decide +kernel)
theorem dJ0_indexOf_7cf53_17 : decode cJ0_indexOf_7cf53 17 = .ok (.invokestatic 637, 3) := dcw_184 (by decide +kernel)
theorem dJ0_indexOf_7cf53_20 : decode cJ0_indexOf_7cf53 20 = .ok (.goto 16, 3) := dcs_167 (n := 16) (by decide +kernel)
theorem dJ0_indexOf_7cf53_36 : decode cJ0_indexOf_7cf53 36 = .ok (.ireturn, 1) := dc1_172 (by decide +kernel)
theorem dJ0_coder_7d493_0 : decode cJ0_coder_7d493 0 = .ok (.getstatic 38, 3) := dcw_178 (by decide +kernel)
theorem dJ0_coder_7d493_3 : decode cJ0_coder_7d493 3 = .ok (.ifCond .eq 10, 3) := dcs_153 (n := 10) (by decide +kernel)
theorem dJ0_coder_7d493_6 : decode cJ0_coder_7d493 6 = .ok (.aload_n 0, 1) := dc1_42 (by decide +kernel)
theorem dJ0_coder_7d493_7 : decode cJ0_coder_7d493 7 = .ok (.getfield 15, 3) := dcw_180 (by decide +kernel)
theorem dJ0_coder_7d493_10 : decode cJ0_coder_7d493 10 = .ok (.goto 4, 3) := dcs_167 (n := 4) (by decide +kernel)
theorem dJ0_coder_7d493_14 : decode cJ0_coder_7d493 14 = .ok (.ireturn, 1) := dc1_172 (by decide +kernel)
theorem dJ0_isLatin1_aae02_0 : decode cJ0_isLatin1_aae02 0 = .ok (.getstatic 38, 3) := dcw_178 (by decide +kernel)
theorem dJ0_isLatin1_aae02_3 : decode cJ0_isLatin1_aae02 3 = .ok (.ifCond .eq 14, 3) := dcs_153 (n := 14) (by decide +kernel)
theorem dJ0_isLatin1_aae02_6 : decode cJ0_isLatin1_aae02 6 = .ok (.aload_n 0, 1) := dc1_42 (by decide +kernel)
theorem dJ0_isLatin1_aae02_7 : decode cJ0_isLatin1_aae02 7 = .ok (.getfield 15, 3) := dcw_180 (by decide +kernel)
theorem dJ0_isLatin1_aae02_10 : decode cJ0_isLatin1_aae02 10 = .ok (.ifCond .ne 7, 3) := dcs_154 (n := 7) (by decide +kernel)
theorem dJ0_isLatin1_aae02_13 : decode cJ0_isLatin1_aae02 13 = .ok (.iconst 1, 1) := dc1_4 (by decide +kernel)
theorem dJ0_isLatin1_aae02_14 : decode cJ0_isLatin1_aae02 14 = .ok (.goto 4, 3) := dcs_167 (n := 4) (by decide +kernel)
theorem dJ0_isLatin1_aae02_18 : decode cJ0_isLatin1_aae02 18 = .ok (.ireturn, 1) := dc1_172 (by decide +kernel)
theorem dJ1_canEncode_9a6ad_0 : decode cJ1_canEncode_9a6ad 0 = .ok (.iload_n 0, 1) := dc1_26 (by decide +kernel)
theorem dJ1_canEncode_9a6ad_1 : decode cJ1_canEncode_9a6ad 1 = .ok (.ifCond .lt 14, 3) := dcs_155 (n := 14) (by decide +kernel)
theorem dJ1_canEncode_9a6ad_4 : decode cJ1_canEncode_9a6ad 4 = .ok (.iload_n 0, 1) := dc1_26 (by decide +kernel)
theorem dJ1_canEncode_9a6ad_5 : decode cJ1_canEncode_9a6ad 5 = .ok (.sipush 255, 3) := dcs_17 (n := 255) (by decide +kernel)
theorem dJ1_canEncode_9a6ad_8 : decode cJ1_canEncode_9a6ad 8 = .ok (.if_icmp .gt 7, 3) := dcs_163 (n := 7) (by decide +kernel)
theorem dJ1_canEncode_9a6ad_11 : decode cJ1_canEncode_9a6ad 11 = .ok (.iconst 1, 1) := dc1_4 (by decide +kernel)
theorem dJ1_canEncode_9a6ad_12 : decode cJ1_canEncode_9a6ad 12 = .ok (.goto 4, 3) := dcs_167 (n := 4) (by decide +kernel)
theorem dJ1_canEncode_9a6ad_15 : decode cJ1_canEncode_9a6ad 15 = .ok (.iconst 0, 1) := dc1_3 (by decide +kernel)
theorem dJ1_canEncode_9a6ad_16 : decode cJ1_canEncode_9a6ad 16 = .ok (.ireturn, 1) := dc1_172 (by decide +kernel)
theorem ggJ1_indexOf_4cfef_J1_canEncode_9a6ad : GoodIn wsJ1_indexOf_4cfef wsJ1_canEncode_9a6ad := gi_sub (fun w h => List.mem_cons_of_mem _ (List.mem_append_right _ (List.mem_append_left _ h))) gd_wsJ1_canEncode_9a6ad
set_option maxRecDepth 20000 in
theorem gJ1_indexOf_4cfef_J1_canEncode_9a6ad : GoodIn wsJ1_indexOf_4cfef (va_wsS RJ1 88 yJ1_canEncode_9a6ad wsJ1_canEncode_9a6ad) := goodIn_app (goodIn_of _ (by decide +kernel)) ggJ1_indexOf_4cfef_J1_canEncode_9a6ad
theorem ggJ1_indexOf_4cfef_J1_indexOfChar_4cfef : GoodIn wsJ1_indexOf_4cfef wsJ1_indexOfChar_4cfef := gi_sub (fun w h => List.mem_cons_of_mem _ (List.mem_append_right _ (List.mem_append_right _ h))) gd_wsJ1_indexOfChar_4cfef
set_option maxRecDepth 20000 in
theorem gJ1_indexOf_4cfef_J1_indexOfChar_4cfef : GoodIn wsJ1_indexOf_4cfef (va_wsS RJ1 95 yJ1_indexOfChar_4cfef wsJ1_indexOfChar_4cfef) := goodIn_app (goodIn_of _ (by decide +kernel)) ggJ1_indexOf_4cfef_J1_indexOfChar_4cfef
theorem dJ1_indexOf_4cfef_0 : decode cJ1_indexOf_4cfef 0 = .ok (.iload_n 1, 1) := dc1_27 (by decide +kernel)
theorem dJ1_indexOf_4cfef_1 : decode cJ1_indexOf_4cfef 1 = .ok (.invokestatic 88, 3) := dcw_184 (by decide +kernel)
theorem dJ1_indexOf_4cfef_4 : decode cJ1_indexOf_4cfef 4 = .ok (.ifCond .ne 5, 3) := dcs_154 (n := 5) (by decide +kernel)
theorem dJ1_indexOf_4cfef_7 : decode cJ1_indexOf_4cfef 7 = .ok (.iconst (-1), 1) := dc1_2 (by decide +kernel)
theorem dJ1_indexOf_4cfef_8 : decode cJ1_indexOf_4cfef 8 = .ok (.ireturn, 1) := dc1_172 (by decide +kernel)
theorem dJ1_indexOf_4cfef_9 : decode cJ1_indexOf_4cfef 9 = .ok (.iload_n 2, 1) := dc1_28 (by decide +kernel)
theorem dJ1_indexOf_4cfef_10 : decode cJ1_indexOf_4cfef 10 = .ok (.iconst 0, 1) := dc1_3 (by decide +kernel)
theorem dJ1_indexOf_4cfef_11 : decode cJ1_indexOf_4cfef 11 = .ok (.invokestatic 92, 3) := dcw_184 (by decide +kernel)
theorem dJ1_indexOf_4cfef_14 : decode cJ1_indexOf_4cfef 14 = .ok (.istore_n 2, 1) := dc1_61 (by decide +kernel)
theorem dJ1_indexOf_4cfef_15 : decode cJ1_indexOf_4cfef 15 = .ok (.iload_n 3, 1) := dc1_29 (by decide +kernel)
theorem dJ1_indexOf_4cfef_16 : decode cJ1_indexOf_4cfef 16 = .ok (.aload_n 0, 1) := dc1_42 (by decide +kernel)
theorem dJ1_indexOf_4cfef_17 : decode cJ1_indexOf_4cfef 17 = .ok (.arraylength, 1) := dc1_190 (by decide +kernel)
theorem dJ1_indexOf_4cfef_18 : decode cJ1_indexOf_4cfef 18 = .ok (.invokestatic 38, 3) := dcw_184 (by decide +kernel)
theorem dJ1_indexOf_4cfef_21 : decode cJ1_indexOf_4cfef 21 = .ok (.istore_n 3, 1) := dc1_62 (by decide +kernel)
theorem dJ1_indexOf_4cfef_22 : decode cJ1_indexOf_4cfef 22 = .ok (.iload_n 2, 1) := dc1_28 (by decide +kernel)
theorem dJ1_indexOf_4cfef_23 : decode cJ1_indexOf_4cfef 23 = .ok (.iload_n 3, 1) := dc1_29 (by decide +kernel)
theorem dJ1_indexOf_4cfef_24 : decode cJ1_indexOf_4cfef 24 = .ok (.if_icmp .lt 5, 3) := dcs_161 (n := 5) (by decide +kernel)
theorem dJ1_indexOf_4cfef_27 : decode cJ1_indexOf_4cfef 27 = .ok (.iconst (-1), 1) := dc1_2 (by decide +kernel)
theorem dJ1_indexOf_4cfef_28 : decode cJ1_indexOf_4cfef 28 = .ok (.ireturn, 1) := dc1_172 (by decide +kernel)
theorem dJ1_indexOf_4cfef_29 : decode cJ1_indexOf_4cfef 29 = .ok (.aload_n 0, 1) := dc1_42 (by decide +kernel)
theorem dJ1_indexOf_4cfef_30 : decode cJ1_indexOf_4cfef 30 = .ok (.iload_n 1, 1) := dc1_27 (by decide +kernel)
theorem dJ1_indexOf_4cfef_31 : decode cJ1_indexOf_4cfef 31 = .ok (.iload_n 2, 1) := dc1_28 (by decide +kernel)
theorem dJ1_indexOf_4cfef_32 : decode cJ1_indexOf_4cfef 32 = .ok (.iload_n 3, 1) := dc1_29 (by decide +kernel)
theorem dJ1_indexOf_4cfef_33 : decode cJ1_indexOf_4cfef 33 = .ok (.invokestatic 95, 3) := dcw_184 (by decide +kernel)
theorem dJ1_indexOf_4cfef_36 : decode cJ1_indexOf_4cfef 36 = .ok (.ireturn, 1) := dc1_172 (by decide +kernel)
theorem dJ1_indexOfChar_4cfef_0 : decode cJ1_indexOfChar_4cfef 0 = .ok (.iload_n 1, 1) := dc1_27 (by decide +kernel)
theorem dJ1_indexOfChar_4cfef_1 : decode cJ1_indexOfChar_4cfef 1 = .ok (.i2b, 1) := dc1_145 (by decide +kernel)
theorem dJ1_indexOfChar_4cfef_2 : decode cJ1_indexOfChar_4cfef 2 = .ok (.istore 4, 2) := dcu_54 (by decide +kernel)
theorem dJ1_indexOfChar_4cfef_4 : decode cJ1_indexOfChar_4cfef 4 = .ok (.iload_n 2, 1) := dc1_28 (by decide +kernel)
theorem dJ1_indexOfChar_4cfef_5 : decode cJ1_indexOfChar_4cfef 5 = .ok (.istore 5, 2) := dcu_54 (by decide +kernel)
theorem dJ1_indexOfChar_4cfef_7 : decode cJ1_indexOfChar_4cfef 7 = .ok (.iload 5, 2) := dcu_21 (by decide +kernel)
theorem dJ1_indexOfChar_4cfef_9 : decode cJ1_indexOfChar_4cfef 9 = .ok (.iload_n 3, 1) := dc1_29 (by decide +kernel)
theorem dJ1_indexOfChar_4cfef_10 : decode cJ1_indexOfChar_4cfef 10 = .ok (.if_icmp .ge 21, 3) := dcs_162 (n := 21) (by decide +kernel)
theorem dJ1_indexOfChar_4cfef_13 : decode cJ1_indexOfChar_4cfef 13 = .ok (.aload_n 0, 1) := dc1_42 (by decide +kernel)
theorem dJ1_indexOfChar_4cfef_14 : decode cJ1_indexOfChar_4cfef 14 = .ok (.iload 5, 2) := dcu_21 (by decide +kernel)
theorem dJ1_indexOfChar_4cfef_16 : decode cJ1_indexOfChar_4cfef 16 = .ok (.baload, 1) := dc1_51 (by decide +kernel)
theorem dJ1_indexOfChar_4cfef_17 : decode cJ1_indexOfChar_4cfef 17 = .ok (.iload 4, 2) := dcu_21 (by decide +kernel)
theorem dJ1_indexOfChar_4cfef_19 : decode cJ1_indexOfChar_4cfef 19 = .ok (.if_icmp .ne 6, 3) := dcs_160 (n := 6) (by decide +kernel)
theorem dJ1_indexOfChar_4cfef_22 : decode cJ1_indexOfChar_4cfef 22 = .ok (.iload 5, 2) := dcu_21 (by decide +kernel)
theorem dJ1_indexOfChar_4cfef_24 : decode cJ1_indexOfChar_4cfef 24 = .ok (.ireturn, 1) := dc1_172 (by decide +kernel)
theorem dJ1_indexOfChar_4cfef_25 : decode cJ1_indexOfChar_4cfef 25 = .ok (.iinc 5 1, 3) := dc_iinc (m := 1) (by decide +kernel)
theorem dJ1_indexOfChar_4cfef_28 : decode cJ1_indexOfChar_4cfef 28 = .ok (.goto (-21), 3) := dcs_167 (n := 65515) (by decide +kernel)
theorem dJ1_indexOfChar_4cfef_31 : decode cJ1_indexOfChar_4cfef 31 = .ok (.iconst (-1), 1) := dc1_2 (by decide +kernel)
theorem dJ1_indexOfChar_4cfef_32 : decode cJ1_indexOfChar_4cfef 32 = .ok (.ireturn, 1) := dc1_172 (by decide +kernel)
set_option maxHeartbeats 4000000 in
set_option maxRecDepth 100000 in
theorem bkJ1_canEncode_9a6ad {l : Launch} {dC : Nat → ClassId} {dI : Nat → Nat → Nat} {cB cI cJ cZ cS : ClassId} {as : List Value} {r : Int32} (x0 : Int32) (hB : kJ1_canEncode_9a6ad x0 = some r) : BlkI l yJ1_canEncode_9a6ad wsJ1_canEncode_9a6ad ({ frames := 0, cells := 0, slots := 0, locals := 0 }) cJ1_canEncode_9a6ad 1 (some .boolean) (dC, dI) (tysA cB cI cJ cZ cS) as 0 [] [(0, .int x0)] [] (fun x _ => x = r) := by
  intro p e s0 m below meth c A E H locs ls hP hD hS hl
  obtain ⟨C, hr, hlocks, hA, hK, hN⟩ := id E
  obtain ⟨hx, hb, hml, hown, hts⟩ := id C
  unfold kJ1_canEncode_9a6ad at hB
  refine lv_iload_n hx hb dJ1_canEncode_9a6ad_0 rfl (lv_at hl 0 rfl) ?_
  refine lv_if_lt (tgt := 15) hx hb dJ1_canEncode_9a6ad_1 (by decide) (fun c1 => ?_) (fun c1 => ?_)
  · have hB := if_p hB c1
    refine lv_iconst (v := 0) hx hb dJ1_canEncode_9a6ad_15 (by decide) ?_
    exact q_zret C hr hlocks (Or.inl rfl) hK hP hD hS (Nat.le_of_ble_eq_true rfl) (Nat.le_of_ble_eq_true rfl) dJ1_canEncode_9a6ad_16 (by cases hB; rfl)
  · have hB := if_n hB c1
    refine lv_iload_n hx hb dJ1_canEncode_9a6ad_4 rfl (lv_at hl 0 rfl) ?_
    refine lv_sipush (v := 255) hx hb dJ1_canEncode_9a6ad_5 (by decide) ?_
    refine lv_icmp_gt (tgt := 15) hx hb dJ1_canEncode_9a6ad_8 (by decide) (fun c2 => ?_) (fun c2 => ?_)
    · have hB := if_p hB c2
      refine lv_iconst (v := 0) hx hb dJ1_canEncode_9a6ad_15 (by decide) ?_
      exact q_zret C hr hlocks (Or.inl rfl) hK hP hD hS (Nat.le_of_ble_eq_true rfl) (Nat.le_of_ble_eq_true rfl) dJ1_canEncode_9a6ad_16 (by cases hB; rfl)
    · have hB := if_n hB c2
      refine lv_iconst (v := 1) hx hb dJ1_canEncode_9a6ad_11 (by decide) ?_
      refine lv_goto (tgt := 16) hx hb dJ1_canEncode_9a6ad_12 (by decide) ?_
      exact q_zret C hr hlocks (Or.inr rfl) hK hP hD hS (Nat.le_of_ble_eq_true rfl) (Nat.le_of_ble_eq_true rfl) dJ1_canEncode_9a6ad_16 (by cases hB; rfl)
theorem ckJ1_canEncode_9a6ad {l : Launch} {dC : Nat → ClassId} {dI : Nat → Nat → Nat} {cB cI cJ cZ cS : ClassId} {r : Int32} {x0 : Int32} (hB : kJ1_canEncode_9a6ad x0 = some r) : CI l yJ1_canEncode_9a6ad wsJ1_canEncode_9a6ad ({ frames := 0, cells := 0, slots := 0, locals := 0 }) (dC, dI) (tysA cB cI cJ cZ cS) [] [.int x0] (fun x _ => x = r) :=
  CI_of (cc := cJ1_canEncode_9a6ad) (maxL := 1) (ret := (some .boolean)) (by decide) rfl (Nat.le_of_ble_eq_true rfl) (bkJ1_canEncode_9a6ad _ hB)
set_option maxHeartbeats 4000000 in
set_option maxRecDepth 100000 in
theorem bkJ1_indexOfChar_4cfef_7 {l : Launch} {dC : Nat → ClassId} {dI : Nat → Nat → Nat} {cB cI cJ cZ cS : ClassId} {ak av : Nat} {as : List Value} {r : Int32} {k7 : Int32 → Int32 → Int32 → Option Int32} (hk7 : ∀ (x3 : Int32) (x4 : Int32) (x5 : Int32), k7 x3 x4 x5 = some r → BlkIS ak av l yJ1_indexOfChar_4cfef wsJ1_indexOfChar_4cfef ({ frames := 0, cells := 0, slots := 0, locals := 0 }) cJ1_indexOfChar_4cfef 6 (some .int) (dC, dI) (tysA cB cI cJ cZ cS) as 7 [] [(0, .ref av), (3, .int x3), (4, .int x4), (5, .int x5)] [] (fun x _ => x = r)) (x3 : Int32) (x4 : Int32) (x5 : Int32) (hB : kJ1_indexOfChar_4cfef_7 k7 x3 x4 x5 = some r) : BlkIS ak av l yJ1_indexOfChar_4cfef wsJ1_indexOfChar_4cfef ({ frames := 0, cells := 0, slots := 0, locals := 0 }) cJ1_indexOfChar_4cfef 6 (some .int) (dC, dI) (tysA cB cI cJ cZ cS) as 7 [] [(0, .ref av), (3, .int x3), (4, .int x4), (5, .int x5)] [] (fun x _ => x = r) := by
  intro p e s0 m below meth c A E hX H locs ls hP hD hS hl
  obtain ⟨C, hr, hlocks, hA, hK, hN⟩ := id E
  obtain ⟨hx, hb, hml, hown, hts⟩ := id C
  unfold kJ1_indexOfChar_4cfef_7 at hB
  refine lv_iload hx hb dJ1_indexOfChar_4cfef_7 (lv_at hl 3 rfl) ?_
  refine lv_iload_n hx hb dJ1_indexOfChar_4cfef_9 rfl (lv_at hl 1 rfl) ?_
  refine lv_icmp_ge (tgt := 31) hx hb dJ1_indexOfChar_4cfef_10 (by decide) (fun c1 => ?_) (fun c1 => ?_)
  · have hB := if_p hB c1
    refine lv_iconst (v := (-1)) hx hb dJ1_indexOfChar_4cfef_31 (by decide) ?_
    exact q_iret C hr hlocks hK hP hD hS (Nat.le_of_ble_eq_true rfl) (Nat.le_of_ble_eq_true rfl) dJ1_indexOfChar_4cfef_32 (by cases hB; rfl)
  · have hB := if_n hB c1
    refine lv_aload_n hx hb dJ1_indexOfChar_4cfef_13 rfl (lv_at hl 0 rfl) ?_
    refine lv_iload hx hb dJ1_indexOfChar_4cfef_14 (lv_at hl 3 rfl) ?_
    obtain ⟨g2, hB⟩ := guard_inv hB
    refine va_tb (v := .int (sgn (Int32.toNatClampNeg x5))) hx hb hX.2.2.2.2.1 hS (vpb_in g2) rfl dJ1_indexOfChar_4cfef_16 ?_
    refine lv_iload hx hb dJ1_indexOfChar_4cfef_17 (lv_at hl 2 rfl) ?_
    refine lv_icmp_ne (tgt := 25) hx hb dJ1_indexOfChar_4cfef_19 (by decide) (fun c3 => ?_) (fun c3 => ?_)
    · have hB := if_n hB c3
      refine lv_iinc (v := (x5 + 1)) (lv' := [(5, .int (x5 + 1)), (0, .ref av), (3, .int x3), (4, .int x4)]) hx hb dJ1_indexOfChar_4cfef_25 hl (k := 3) rfl (rfl) (by decide) rfl (fun ls hl => ?_)
      refine lv_goto (tgt := 7) hx hb dJ1_indexOfChar_4cfef_28 (by decide) ?_
      exact hk7 _ _ _ hB p e s0 m below meth c A E hX H locs ls hP hD hS (lv_sub hl [1, 2, 3, 0] rfl)
    · have hB := if_p hB c3
      refine lv_iload hx hb dJ1_indexOfChar_4cfef_22 (lv_at hl 3 rfl) ?_
      exact q_iret C hr hlocks hK hP hD hS (Nat.le_of_ble_eq_true rfl) (Nat.le_of_ble_eq_true rfl) dJ1_indexOfChar_4cfef_24 (by cases hB; rfl)
theorem bkJ1_indexOfChar_4cfef_7L {l : Launch} {dC : Nat → ClassId} {dI : Nat → Nat → Nat} {cB cI cJ cZ cS : ClassId} {ak av : Nat} {as : List Value} {r : Int32} : ∀ (n : Nat) (x3 : Int32) (x4 : Int32) (x5 : Int32), kJ1_indexOfChar_4cfef_7L n x3 x4 x5 = some r → BlkIS ak av l yJ1_indexOfChar_4cfef wsJ1_indexOfChar_4cfef ({ frames := 0, cells := 0, slots := 0, locals := 0 }) cJ1_indexOfChar_4cfef 6 (some .int) (dC, dI) (tysA cB cI cJ cZ cS) as 7 [] [(0, .ref av), (3, .int x3), (4, .int x4), (5, .int x5)] [] (fun x _ => x = r) := by
  intro n
  induction n with
  | zero => intro x3 x4 x5 hB; exact none_ne hB
  | succ n ih => intro x3 x4 x5 hB; exact bkJ1_indexOfChar_4cfef_7 ih _ _ _ hB
set_option maxHeartbeats 4000000 in
set_option maxRecDepth 100000 in
theorem bkJ1_indexOfChar_4cfef {l : Launch} {dC : Nat → ClassId} {dI : Nat → Nat → Nat} {cB cI cJ cZ cS : ClassId} {ak av : Nat} {as : List Value} {r : Int32} (x1 : Int32) (x2 : Int32) (x3 : Int32) (hB : kJ1_indexOfChar_4cfef x1 x2 x3 = some r) : BlkIS ak av l yJ1_indexOfChar_4cfef wsJ1_indexOfChar_4cfef ({ frames := 0, cells := 0, slots := 0, locals := 0 }) cJ1_indexOfChar_4cfef 6 (some .int) (dC, dI) (tysA cB cI cJ cZ cS) as 0 [] [(0, .ref av), (1, .int x1), (2, .int x2), (3, .int x3)] [] (fun x _ => x = r) := by
  intro p e s0 m below meth c A E hX H locs ls hP hD hS hl
  obtain ⟨C, hr, hlocks, hA, hK, hN⟩ := id E
  obtain ⟨hx, hb, hml, hown, hts⟩ := id C
  unfold kJ1_indexOfChar_4cfef at hB
  refine lv_iload_n hx hb dJ1_indexOfChar_4cfef_0 rfl (lv_at hl 1 rfl) ?_
  refine lv_i2b (v := (Int8.toInt32 (Int32.toInt8 x1))) hx hb dJ1_indexOfChar_4cfef_1 rfl ?_
  refine lv_istore (lv' := [(4, .int (Int8.toInt32 (Int32.toInt8 x1))), (0, .ref av), (1, .int x1), (2, .int x2), (3, .int x3)]) hx hb dJ1_indexOfChar_4cfef_2 hl (by decide) rfl (fun ls hl => ?_)
  refine lv_iload_n hx hb dJ1_indexOfChar_4cfef_4 rfl (lv_at hl 3 rfl) ?_
  refine lv_istore (lv' := [(5, .int x2), (4, .int (Int8.toInt32 (Int32.toInt8 x1))), (0, .ref av), (1, .int x1), (2, .int x2), (3, .int x3)]) hx hb dJ1_indexOfChar_4cfef_5 hl (by decide) rfl (fun ls hl => ?_)
  exact bkJ1_indexOfChar_4cfef_7L fu _ _ _ hB p e s0 m below meth c A E hX H locs ls hP hD hS (lv_sub hl [2, 5, 1, 0] rfl)
theorem ckJ1_indexOfChar_4cfef {l : Launch} {dC : Nat → ClassId} {dI : Nat → Nat → Nat} {cB cI cJ cZ cS : ClassId} {ak av : Nat} {r : Int32} {x1 : Int32} {x2 : Int32} {x3 : Int32} (hB : kJ1_indexOfChar_4cfef x1 x2 x3 = some r) : CIS ak av l yJ1_indexOfChar_4cfef wsJ1_indexOfChar_4cfef ({ frames := 0, cells := 0, slots := 0, locals := 0 }) (dC, dI) (tysA cB cI cJ cZ cS) [] [.ref av, .int x1, .int x2, .int x3] (fun x _ => x = r) :=
  CIS_of (cc := cJ1_indexOfChar_4cfef) (maxL := 6) (ret := (some .int)) (by decide) rfl (Nat.le_of_ble_eq_true rfl) (bkJ1_indexOfChar_4cfef _ _ _ hB)
theorem LJ1_indexOf_4cfef_M38 : Cond.methodLink RJ1 38 Lib.Math.min.name ∈ wsJ1_indexOf_4cfef := by decide +kernel
theorem LJ1_indexOf_4cfef_M92 : Cond.methodLink RJ1 92 Lib.Math.max.name ∈ wsJ1_indexOf_4cfef := by decide +kernel
theorem LJ1_indexOf_4cfef_MCmax : Cond.code Lib.Math.max.name Lib.Math.max.code 2 (some .int) ∈ wsJ1_indexOf_4cfef := by decide +kernel
theorem LJ1_indexOf_4cfef_MCmin : Cond.code Lib.Math.min.name Lib.Math.min.code 2 (some .int) ∈ wsJ1_indexOf_4cfef := by decide +kernel
theorem LJ1_indexOf_4cfef_MI : Cond.initialized "java/lang/Math" ∈ wsJ1_indexOf_4cfef := by decide +kernel
theorem LJ1_indexOf_4cfef_MSmax : Cond.static Lib.Math.max.name ∈ wsJ1_indexOf_4cfef := by decide +kernel
theorem LJ1_indexOf_4cfef_MSmin : Cond.static Lib.Math.min.name ∈ wsJ1_indexOf_4cfef := by decide +kernel
set_option maxHeartbeats 4000000 in
set_option maxRecDepth 100000 in
theorem bkJ1_indexOf_4cfef {l : Launch} {dC : Nat → ClassId} {dI : Nat → Nat → Nat} {cB cI cJ cZ cS : ClassId} {ak av : Nat} {as : List Value} {r : Int32} (x1 : Int32) (x2 : Int32) (x3 : Int32) (hB : kJ1_indexOf_4cfef x1 x2 x3 = some r) : BlkIS ak av l yJ1_indexOf_4cfef wsJ1_indexOf_4cfef ({ frames := 1, cells := 0, slots := 0, locals := 25 }) cJ1_indexOf_4cfef 4 (some .int) (dC, dI) (tysA cB cI cJ cZ cS) as 0 [] [(0, .ref av), (1, .int x1), (2, .int x2), (3, .int x3)] [] (fun x _ => x = r) := by
  intro p e s0 m below meth c A E hX H locs ls hP hD hS hl
  obtain ⟨C, hr, hlocks, hA, hK, hN⟩ := id E
  obtain ⟨hx, hb, hml, hown, hts⟩ := id C
  unfold kJ1_indexOf_4cfef at hB
  refine lv_iload_n hx hb dJ1_indexOf_4cfef_0 rfl (lv_at hl 1 rfl) ?_
  obtain ⟨q_, hc, hB⟩ := bindP_inv hB
  refine q_goi0 (va_runS (As := [.int x1]) (rest := []) C (ckJ1_canEncode_9a6ad hc _) (va_cwS 1 hts gJ1_indexOf_4cfef_J1_canEncode_9a6ad rfl rfl rfl (by decide +kernel) ⟨Nat.le_of_ble_eq_true rfl, Nat.le_of_ble_eq_true rfl⟩) (q_pre0 hN hK) rfl rfl hl.1 rfl (lv_room (Nat.le_of_ble_eq_true rfl)) dJ1_indexOf_4cfef_1 ⟨Nat.le_of_ble_eq_true rfl, Nat.le_of_ble_eq_true rfl⟩) hP hD hS hA (fun r1 w1 H locs hw hP hS => ?_)
  subst hw
  refine lv_if_ne (tgt := 9) hx hb dJ1_indexOf_4cfef_4 (by decide) (fun c2 => ?_) (fun c2 => ?_)
  · have hB := if_n hB c2
    refine lv_iload_n hx hb dJ1_indexOf_4cfef_9 rfl (lv_at hl 2 rfl) ?_
    refine lv_iconst (v := 0) hx hb dJ1_indexOf_4cfef_10 (by decide) ?_
    refine va_mmax hx hb (hml.trans hl.1.symm) hown (hts _ LJ1_indexOf_4cfef_M92) (hts _ LJ1_indexOf_4cfef_MSmax) (hts _ LJ1_indexOf_4cfef_MI) (hts _ LJ1_indexOf_4cfef_MCmax) (Nat.le_of_ble_eq_true rfl) (Nat.le_of_ble_eq_true rfl) (Nat.zero_le _) (Nat.zero_le _) dJ1_indexOf_4cfef_11 ?_
    refine q_top (y := (mmax x2 0)) rfl ?_
    refine lv_istore_n (lv' := [(2, .int (mmax x2 0)), (0, .ref av), (1, .int x1), (3, .int x3)]) hx hb dJ1_indexOf_4cfef_14 rfl hl (by decide) rfl (fun ls hl => ?_)
    refine lv_iload_n hx hb dJ1_indexOf_4cfef_15 rfl (lv_at hl 3 rfl) ?_
    refine lv_aload_n hx hb dJ1_indexOf_4cfef_16 rfl (lv_at hl 1 rfl) ?_
    refine va_tlen (v := 9) hx hb hX.2.2.2.2.1 hS (by decide +kernel) dJ1_indexOf_4cfef_17 ?_
    refine va_mmin hx hb (hml.trans hl.1.symm) hown (hts _ LJ1_indexOf_4cfef_M38) (hts _ LJ1_indexOf_4cfef_MSmin) (hts _ LJ1_indexOf_4cfef_MI) (hts _ LJ1_indexOf_4cfef_MCmin) (Nat.le_of_ble_eq_true rfl) (Nat.le_of_ble_eq_true rfl) (Nat.zero_le _) (Nat.zero_le _) dJ1_indexOf_4cfef_18 ?_
    refine q_top (y := (mmin x3 9)) rfl ?_
    refine lv_istore_n (lv' := [(3, .int (mmin x3 9)), (2, .int (mmax x2 0)), (0, .ref av), (1, .int x1)]) hx hb dJ1_indexOf_4cfef_21 rfl hl (by decide) rfl (fun ls hl => ?_)
    refine lv_iload_n hx hb dJ1_indexOf_4cfef_22 rfl (lv_at hl 1 rfl) ?_
    refine lv_iload_n hx hb dJ1_indexOf_4cfef_23 rfl (lv_at hl 0 rfl) ?_
    refine lv_icmp_lt (tgt := 29) hx hb dJ1_indexOf_4cfef_24 (by decide) (fun c3 => ?_) (fun c3 => ?_)
    · have hB := if_p hB c3
      refine lv_aload_n hx hb dJ1_indexOf_4cfef_29 rfl (lv_at hl 2 rfl) ?_
      refine lv_iload_n hx hb dJ1_indexOf_4cfef_30 rfl (lv_at hl 3 rfl) ?_
      refine lv_iload_n hx hb dJ1_indexOf_4cfef_31 rfl (lv_at hl 1 rfl) ?_
      refine lv_iload_n hx hb dJ1_indexOf_4cfef_32 rfl (lv_at hl 0 rfl) ?_
      obtain ⟨q_, hc, hB⟩ := bindP_inv hB
      refine q_goi0 (va_runS (As := [.ref av, .int x1, .int (mmax x2 0), .int (mmin x3 9)]) (rest := []) C (ckJ1_indexOfChar_4cfef hc _) (va_cwS 4 hts gJ1_indexOf_4cfef_J1_indexOfChar_4cfef rfl rfl rfl (by decide +kernel) ⟨Nat.le_of_ble_eq_true rfl, Nat.le_of_ble_eq_true rfl⟩) (q_preS0 hN hK hS hA hX) rfl rfl hl.1 rfl (lv_room (Nat.le_of_ble_eq_true rfl)) dJ1_indexOf_4cfef_33 ⟨Nat.le_of_ble_eq_true rfl, Nat.le_of_ble_eq_true rfl⟩) hP hD hS hA (fun r4 w1 H locs hw hP hS => ?_)
      subst hw
      exact q_iret C hr hlocks hK hP hD hS (Nat.le_of_ble_eq_true rfl) (Nat.le_of_ble_eq_true rfl) dJ1_indexOf_4cfef_36 (by cases hB; rfl)
    · have hB := if_n hB c3
      refine lv_iconst (v := (-1)) hx hb dJ1_indexOf_4cfef_27 (by decide) ?_
      exact q_iret C hr hlocks hK hP hD hS (Nat.le_of_ble_eq_true rfl) (Nat.le_of_ble_eq_true rfl) dJ1_indexOf_4cfef_28 (by cases hB; rfl)
  · have hB := if_p hB c2
    refine lv_iconst (v := (-1)) hx hb dJ1_indexOf_4cfef_7 (by decide) ?_
    exact q_iret C hr hlocks hK hP hD hS (Nat.le_of_ble_eq_true rfl) (Nat.le_of_ble_eq_true rfl) dJ1_indexOf_4cfef_8 (by cases hB; rfl)
theorem ckJ1_indexOf_4cfef {l : Launch} {dC : Nat → ClassId} {dI : Nat → Nat → Nat} {cB cI cJ cZ cS : ClassId} {ak av : Nat} {r : Int32} {x1 : Int32} {x2 : Int32} {x3 : Int32} (hB : kJ1_indexOf_4cfef x1 x2 x3 = some r) : CIS ak av l yJ1_indexOf_4cfef wsJ1_indexOf_4cfef ({ frames := 1, cells := 0, slots := 0, locals := 25 }) (dC, dI) (tysA cB cI cJ cZ cS) [] [.ref av, .int x1, .int x2, .int x3] (fun x _ => x = r) :=
  CIS_of (cc := cJ1_indexOf_4cfef) (maxL := 4) (ret := (some .int)) (by decide) rfl (Nat.le_of_ble_eq_true rfl) (bkJ1_indexOf_4cfef _ _ _ hB)
theorem LJ0_coder_7d493_15 : Cond.fieldLink RJ0 15 "java/lang/String" "coder" "B" ∈ wsJ0_coder_7d493 := by decide +kernel
theorem LJ0_coder_7d493_G38 : Cond.fieldLink RJ0 38 "java/lang/String" "COMPACT_STRINGS" "Z" ∈ wsJ0_coder_7d493 := by decide +kernel
set_option maxHeartbeats 4000000 in
set_option maxRecDepth 100000 in
theorem bkJ0_coder_7d493 {l : Launch} {dC : Nat → ClassId} {dI : Nat → Nat → Nat} {cB cI cJ cZ cS : ClassId} {ak av : Nat} {as : List Value} {r : Int32} (hB : kJ0_coder_7d493  = some r) : BlkIS ak av l yJ0_coder_7d493 wsJ0_coder_7d493 ({ frames := 0, cells := 0, slots := 0, locals := 0 }) cJ0_coder_7d493 1 (some .byte) (dC, dI) (tysA cB cI cJ cZ cS) as 0 [] [(0, .ref ak)] [] (fun x _ => x = r) := by
  intro p e s0 m below meth c A E hX H locs ls hP hD hS hl
  obtain ⟨C, hr, hlocks, hA, hK, hN⟩ := id E
  obtain ⟨hx, hb, hml, hown, hts⟩ := id C
  unfold kJ0_coder_7d493 at hB
  refine va_gets hx hb hX.2.2.2.2.2 hS hown (hts _ LJ0_coder_7d493_G38) (fun _ h9 => h9) dJ0_coder_7d493_0 ?_
  refine lv_if_eq (tgt := 13) hx hb dJ0_coder_7d493_3 (by decide) (fun h => absurd h (by decide +kernel)) (fun _ => ?_)
  refine lv_aload_n hx hb dJ0_coder_7d493_6 rfl (lv_at hl 0 rfl) ?_
  refine vk_getf hx hb hX.2.2.1 hS hown (hts _ LJ0_coder_7d493_15) (fun _ h9 => h9) dJ0_coder_7d493_7 ?_
  refine lv_goto (tgt := 14) hx hb dJ0_coder_7d493_10 (by decide) ?_
  exact q_nret C hr hlocks (by decide +kernel) hK hP hD hS (Nat.le_of_ble_eq_true rfl) (Nat.le_of_ble_eq_true rfl) dJ0_coder_7d493_14 (by cases hB; rfl)
theorem ckJ0_coder_7d493 {l : Launch} {dC : Nat → ClassId} {dI : Nat → Nat → Nat} {cB cI cJ cZ cS : ClassId} {ak av : Nat} {r : Int32} (hB : kJ0_coder_7d493  = some r) : CIS ak av l yJ0_coder_7d493 wsJ0_coder_7d493 ({ frames := 0, cells := 0, slots := 0, locals := 0 }) (dC, dI) (tysA cB cI cJ cZ cS) [] [.ref ak] (fun x _ => x = r) :=
  CIS_of (cc := cJ0_coder_7d493) (maxL := 1) (ret := (some .byte)) (by decide) rfl (Nat.le_of_ble_eq_true rfl) (bkJ0_coder_7d493 hB)
theorem LJ0_length_8abf5_9 : Cond.fieldLink RJ0 9 "java/lang/String" "value" "[B" ∈ wsJ0_length_8abf5 := by decide +kernel
set_option maxHeartbeats 4000000 in
set_option maxRecDepth 100000 in
theorem bkJ0_length_8abf5 {l : Launch} {dC : Nat → ClassId} {dI : Nat → Nat → Nat} {cB cI cJ cZ cS : ClassId} {ak av : Nat} {as : List Value} {r : Int32} (hB : kJ0_length_8abf5  = some r) : BlkIS ak av l yJ0_length_8abf5 wsJ0_length_8abf5 ({ frames := 1, cells := 0, slots := 0, locals := 20 }) cJ0_length_8abf5 1 (some .int) (dC, dI) (tysA cB cI cJ cZ cS) as 0 [] [(0, .ref ak)] [] (fun x _ => x = r) := by
  intro p e s0 m below meth c A E hX H locs ls hP hD hS hl
  obtain ⟨C, hr, hlocks, hA, hK, hN⟩ := id E
  obtain ⟨hx, hb, hml, hown, hts⟩ := id C
  unfold kJ0_length_8abf5 at hB
  refine lv_aload_n hx hb dJ0_length_8abf5_0 rfl (lv_at hl 0 rfl) ?_
  refine vk_getf hx hb hX.2.2.2.1 hS hown (hts _ LJ0_length_8abf5_9) (fun _ h9 => h9) dJ0_length_8abf5_1 ?_
  refine va_tlen (v := 9) hx hb hX.2.2.2.2.1 hS (by decide +kernel) dJ0_length_8abf5_4 ?_
  refine lv_aload_n hx hb dJ0_length_8abf5_5 rfl (lv_at hl 0 rfl) ?_
  obtain ⟨q_, hc, hB⟩ := bindP_inv hB
  refine q_goi0 (va_runV (As := []) (rest := [.int 9]) C (ckJ0_coder_7d493 hc _) (cwV 0 hts gJ0_length_8abf5_J0_coder_7d493 rfl rfl rfl (by decide +kernel) ⟨Nat.le_of_ble_eq_true rfl, Nat.le_of_ble_eq_true rfl⟩) ⟨(q_preS0 hN hK hS hA hX).1, va_Orecv hX.2.1 hS, (q_preS0 hN hK hS hA hX).2⟩ rfl rfl hl.1 rfl (lv_room (Nat.le_of_ble_eq_true rfl)) dJ0_length_8abf5_6 ⟨Nat.le_of_ble_eq_true rfl, Nat.le_of_ble_eq_true rfl⟩) hP hD hS hA (fun r1 w1 H locs hw hP hS => ?_)
  subst hw
  obtain rfl : r1 = 0 := Option.some.inj (hc.symm.trans rfl)
  refine lv_ishr hx hb dJ0_length_8abf5_9 ?_
  refine q_top (y := 9) (by decide +kernel) ?_
  exact q_iret C hr hlocks hK hP hD hS (Nat.le_of_ble_eq_true rfl) (Nat.le_of_ble_eq_true rfl) dJ0_length_8abf5_10 (by cases hB; rfl)
theorem ckJ0_length_8abf5 {l : Launch} {dC : Nat → ClassId} {dI : Nat → Nat → Nat} {cB cI cJ cZ cS : ClassId} {ak av : Nat} {r : Int32} (hB : kJ0_length_8abf5  = some r) : CIS ak av l yJ0_length_8abf5 wsJ0_length_8abf5 ({ frames := 1, cells := 0, slots := 0, locals := 20 }) (dC, dI) (tysA cB cI cJ cZ cS) [] [.ref ak] (fun x _ => x = r) :=
  CIS_of (cc := cJ0_length_8abf5) (maxL := 1) (ret := (some .int)) (by decide) rfl (Nat.le_of_ble_eq_true rfl) (bkJ0_length_8abf5 hB)
theorem LJ0_isLatin1_aae02_15 : Cond.fieldLink RJ0 15 "java/lang/String" "coder" "B" ∈ wsJ0_isLatin1_aae02 := by decide +kernel
theorem LJ0_isLatin1_aae02_G38 : Cond.fieldLink RJ0 38 "java/lang/String" "COMPACT_STRINGS" "Z" ∈ wsJ0_isLatin1_aae02 := by decide +kernel
set_option maxHeartbeats 4000000 in
set_option maxRecDepth 100000 in
theorem bkJ0_isLatin1_aae02 {l : Launch} {dC : Nat → ClassId} {dI : Nat → Nat → Nat} {cB cI cJ cZ cS : ClassId} {ak av : Nat} {as : List Value} {r : Int32} (hB : kJ0_isLatin1_aae02  = some r) : BlkIS ak av l yJ0_isLatin1_aae02 wsJ0_isLatin1_aae02 ({ frames := 0, cells := 0, slots := 0, locals := 0 }) cJ0_isLatin1_aae02 1 (some .boolean) (dC, dI) (tysA cB cI cJ cZ cS) as 0 [] [(0, .ref ak)] [] (fun x _ => x = r) := by
  intro p e s0 m below meth c A E hX H locs ls hP hD hS hl
  obtain ⟨C, hr, hlocks, hA, hK, hN⟩ := id E
  obtain ⟨hx, hb, hml, hown, hts⟩ := id C
  unfold kJ0_isLatin1_aae02 at hB
  refine va_gets hx hb hX.2.2.2.2.2 hS hown (hts _ LJ0_isLatin1_aae02_G38) (fun _ h9 => h9) dJ0_isLatin1_aae02_0 ?_
  refine lv_if_eq (tgt := 17) hx hb dJ0_isLatin1_aae02_3 (by decide) (fun h => absurd h (by decide +kernel)) (fun _ => ?_)
  refine lv_aload_n hx hb dJ0_isLatin1_aae02_6 rfl (lv_at hl 0 rfl) ?_
  refine vk_getf hx hb hX.2.2.1 hS hown (hts _ LJ0_isLatin1_aae02_15) (fun _ h9 => h9) dJ0_isLatin1_aae02_7 ?_
  refine lv_if_ne (tgt := 17) hx hb dJ0_isLatin1_aae02_10 (by decide) (fun h => absurd (by decide +kernel) h) (fun _ => ?_)
  refine lv_iconst (v := 1) hx hb dJ0_isLatin1_aae02_13 (by decide) ?_
  refine lv_goto (tgt := 18) hx hb dJ0_isLatin1_aae02_14 (by decide) ?_
  exact q_zret C hr hlocks (Or.inr rfl) hK hP hD hS (Nat.le_of_ble_eq_true rfl) (Nat.le_of_ble_eq_true rfl) dJ0_isLatin1_aae02_18 (by cases hB; rfl)
theorem ckJ0_isLatin1_aae02 {l : Launch} {dC : Nat → ClassId} {dI : Nat → Nat → Nat} {cB cI cJ cZ cS : ClassId} {ak av : Nat} {r : Int32} (hB : kJ0_isLatin1_aae02  = some r) : CIS ak av l yJ0_isLatin1_aae02 wsJ0_isLatin1_aae02 ({ frames := 0, cells := 0, slots := 0, locals := 0 }) (dC, dI) (tysA cB cI cJ cZ cS) [] [.ref ak] (fun x _ => x = r) :=
  CIS_of (cc := cJ0_isLatin1_aae02) (maxL := 1) (ret := (some .boolean)) (by decide) rfl (Nat.le_of_ble_eq_true rfl) (bkJ0_isLatin1_aae02 hB)
theorem LJ0_indexOf_7cf53_9 : Cond.fieldLink RJ0 9 "java/lang/String" "value" "[B" ∈ wsJ0_indexOf_7cf53 := by decide +kernel
set_option maxHeartbeats 4000000 in
set_option maxRecDepth 100000 in
theorem bkJ0_indexOf_7cf53 {l : Launch} {dC : Nat → ClassId} {dI : Nat → Nat → Nat} {cB cI cJ cZ cS : ClassId} {ak av : Nat} {as : List Value} {r : Int32} (x1 : Int32) (x2 : Int32) (hB : kJ0_indexOf_7cf53 x1 x2 = some r) : BlkIS ak av l yJ0_indexOf_7cf53 wsJ0_indexOf_7cf53 ({ frames := 2, cells := 0, slots := 0, locals := 48 }) cJ0_indexOf_7cf53 3 (some .int) (dC, dI) (tysA cB cI cJ cZ cS) as 0 [] [(0, .ref ak), (1, .int x1), (2, .int x2)] [] (fun x _ => x = r) := by
  intro p e s0 m below meth c A E hX H locs ls hP hD hS hl
  obtain ⟨C, hr, hlocks, hA, hK, hN⟩ := id E
  obtain ⟨hx, hb, hml, hown, hts⟩ := id C
  unfold kJ0_indexOf_7cf53 at hB
  refine lv_aload_n hx hb dJ0_indexOf_7cf53_0 rfl (lv_at hl 0 rfl) ?_
  obtain ⟨q_, hc, hB⟩ := bindP_inv hB
  refine q_goi0 (va_runV (As := []) (rest := []) C (ckJ0_isLatin1_aae02 hc _) (cwV 0 hts gJ0_indexOf_7cf53_J0_isLatin1_aae02 rfl rfl rfl (by decide +kernel) ⟨Nat.le_of_ble_eq_true rfl, Nat.le_of_ble_eq_true rfl⟩) ⟨(q_preS0 hN hK hS hA hX).1, va_Orecv hX.2.1 hS, (q_preS0 hN hK hS hA hX).2⟩ rfl rfl hl.1 rfl (lv_room (Nat.le_of_ble_eq_true rfl)) dJ0_indexOf_7cf53_1 ⟨Nat.le_of_ble_eq_true rfl, Nat.le_of_ble_eq_true rfl⟩) hP hD hS hA (fun r1 w1 H locs hw hP hS => ?_)
  subst hw
  obtain rfl : r1 = 1 := Option.some.inj (hc.symm.trans rfl)
  refine lv_if_eq (tgt := 23) hx hb dJ0_indexOf_7cf53_4 (by decide) (fun h => absurd h (by decide +kernel)) (fun _ => ?_)
  refine lv_aload_n hx hb dJ0_indexOf_7cf53_7 rfl (lv_at hl 0 rfl) ?_
  refine vk_getf hx hb hX.2.2.2.1 hS hown (hts _ LJ0_indexOf_7cf53_9) (fun _ h9 => h9) dJ0_indexOf_7cf53_8 ?_
  refine lv_iload_n hx hb dJ0_indexOf_7cf53_11 rfl (lv_at hl 1 rfl) ?_
  refine lv_iload_n hx hb dJ0_indexOf_7cf53_12 rfl (lv_at hl 2 rfl) ?_
  refine lv_aload_n hx hb dJ0_indexOf_7cf53_13 rfl (lv_at hl 0 rfl) ?_
  obtain ⟨q_, hc, hB⟩ := bindP_inv hB
  refine q_goi0 (va_runV (As := []) (rest := [.int x2, .int x1, .ref av]) C (ckJ0_length_8abf5 hc _) (cwV 0 hts gJ0_indexOf_7cf53_J0_length_8abf5 rfl rfl rfl (by decide +kernel) ⟨Nat.le_of_ble_eq_true rfl, Nat.le_of_ble_eq_true rfl⟩) ⟨(q_preS0 hN hK hS hA hX).1, va_Orecv hX.2.1 hS, (q_preS0 hN hK hS hA hX).2⟩ rfl rfl hl.1 rfl (lv_room (Nat.le_of_ble_eq_true rfl)) dJ0_indexOf_7cf53_14 ⟨Nat.le_of_ble_eq_true rfl, Nat.le_of_ble_eq_true rfl⟩) hP hD hS hA (fun r2 w1 H locs hw hP hS => ?_)
  subst hw
  obtain rfl : r2 = 9 := Option.some.inj (hc.symm.trans rfl)
  obtain ⟨q_, hc, hB⟩ := bindP_inv hB
  refine q_goi0 (va_runS (As := [.ref av, .int x1, .int x2, .int 9]) (rest := []) C (ckJ1_indexOf_4cfef hc _) (va_cwS 4 hts gJ0_indexOf_7cf53_J1_indexOf_4cfef rfl rfl rfl (by decide +kernel) ⟨Nat.le_of_ble_eq_true rfl, Nat.le_of_ble_eq_true rfl⟩) (q_preS0 hN hK hS hA hX) rfl rfl hl.1 rfl (lv_room (Nat.le_of_ble_eq_true rfl)) dJ0_indexOf_7cf53_17 ⟨Nat.le_of_ble_eq_true rfl, Nat.le_of_ble_eq_true rfl⟩) hP hD hS hA (fun r3 w1 H locs hw hP hS => ?_)
  subst hw
  refine lv_goto (tgt := 36) hx hb dJ0_indexOf_7cf53_20 (by decide) ?_
  exact q_iret C hr hlocks hK hP hD hS (Nat.le_of_ble_eq_true rfl) (Nat.le_of_ble_eq_true rfl) dJ0_indexOf_7cf53_36 (by cases hB; rfl)
theorem ckJ0_indexOf_7cf53 {l : Launch} {dC : Nat → ClassId} {dI : Nat → Nat → Nat} {cB cI cJ cZ cS : ClassId} {ak av : Nat} {r : Int32} {x1 : Int32} {x2 : Int32} (hB : kJ0_indexOf_7cf53 x1 x2 = some r) : CIS ak av l yJ0_indexOf_7cf53 wsJ0_indexOf_7cf53 ({ frames := 2, cells := 0, slots := 0, locals := 48 }) (dC, dI) (tysA cB cI cJ cZ cS) [] [.ref ak, .int x1, .int x2] (fun x _ => x = r) :=
  CIS_of (cc := cJ0_indexOf_7cf53) (maxL := 3) (ret := (some .int)) (by decide) rfl (Nat.le_of_ble_eq_true rfl) (bkJ0_indexOf_7cf53 _ _ hB)
set_option maxHeartbeats 4000000 in
set_option maxRecDepth 100000 in
theorem bkJ0_indexOf_0f7a4 {l : Launch} {dC : Nat → ClassId} {dI : Nat → Nat → Nat} {cB cI cJ cZ cS : ClassId} {ak av : Nat} {as : List Value} {r : Int32} (x1 : Int32) (hB : kJ0_indexOf_0f7a4 x1 = some r) : BlkIS ak av l yJ0_indexOf_0f7a4 wsJ0_indexOf_0f7a4 ({ frames := 3, cells := 0, slots := 0, locals := 70 }) cJ0_indexOf_0f7a4 2 (some .int) (dC, dI) (tysA cB cI cJ cZ cS) as 0 [] [(0, .ref ak), (1, .int x1)] [] (fun x _ => x = r) := by
  intro p e s0 m below meth c A E hX H locs ls hP hD hS hl
  obtain ⟨C, hr, hlocks, hA, hK, hN⟩ := id E
  obtain ⟨hx, hb, hml, hown, hts⟩ := id C
  unfold kJ0_indexOf_0f7a4 at hB
  refine lv_aload_n hx hb dJ0_indexOf_0f7a4_0 rfl (lv_at hl 0 rfl) ?_
  refine lv_iload_n hx hb dJ0_indexOf_0f7a4_1 rfl (lv_at hl 1 rfl) ?_
  refine lv_iconst (v := 0) hx hb dJ0_indexOf_0f7a4_2 (by decide) ?_
  obtain ⟨q_, hc, hB⟩ := bindP_inv hB
  refine q_goi0 (va_runV (As := [.int x1, .int 0]) (rest := []) C (ckJ0_indexOf_7cf53 hc _) (cwV 2 hts gJ0_indexOf_0f7a4_J0_indexOf_7cf53 rfl rfl rfl (by decide +kernel) ⟨Nat.le_of_ble_eq_true rfl, Nat.le_of_ble_eq_true rfl⟩) ⟨(q_preS0 hN hK hS hA hX).1, va_Orecv hX.2.1 hS, (q_preS0 hN hK hS hA hX).2⟩ rfl rfl hl.1 rfl (lv_room (Nat.le_of_ble_eq_true rfl)) dJ0_indexOf_0f7a4_3 ⟨Nat.le_of_ble_eq_true rfl, Nat.le_of_ble_eq_true rfl⟩) hP hD hS hA (fun r1 w1 H locs hw hP hS => ?_)
  subst hw
  exact q_iret C hr hlocks hK hP hD hS (Nat.le_of_ble_eq_true rfl) (Nat.le_of_ble_eq_true rfl) dJ0_indexOf_0f7a4_6 (by cases hB; rfl)
theorem ckJ0_indexOf_0f7a4 {l : Launch} {dC : Nat → ClassId} {dI : Nat → Nat → Nat} {cB cI cJ cZ cS : ClassId} {ak av : Nat} {r : Int32} {x1 : Int32} (hB : kJ0_indexOf_0f7a4 x1 = some r) : CIS ak av l yJ0_indexOf_0f7a4 wsJ0_indexOf_0f7a4 ({ frames := 3, cells := 0, slots := 0, locals := 70 }) (dC, dI) (tysA cB cI cJ cZ cS) [] [.ref ak, .int x1] (fun x _ => x = r) :=
  CIS_of (cc := cJ0_indexOf_0f7a4) (maxL := 2) (ret := (some .int)) (by decide) rfl (Nat.le_of_ble_eq_true rfl) (bkJ0_indexOf_0f7a4 _ hB)
theorem LX3_remember_11 : Cond.fieldLink RX3 11 "GuessFerry$Past" "ring" "[LGuessFerry$Standing;" ∈ wsX3_remember := by decide +kernel
theorem LX3_remember_25 : Cond.fieldLink RX3 25 "GuessFerry$Past" "size" "I" ∈ wsX3_remember := by decide +kernel
theorem LX3_remember_29 : Cond.fieldLink RX3 29 "GuessFerry$Past" "first" "I" ∈ wsX3_remember := by decide +kernel
theorem LX3_remember_E_X6_copyFrom : Cond.selects RX6 yX6_copyFrom yX6_copyFrom ∈ wsX3_remember := by decide +kernel
theorem LX3_remember_I_X6 : Cond.initialized RX6 ∈ wsX3_remember := by decide +kernel
theorem LX3_remember_N_X6_copyFrom : Cond.instanceMethod yX6_copyFrom ∈ wsX3_remember := by decide +kernel
theorem inX3_remember_X3 : ∀ w ∈ u_ws RX3 TX3 5, w ∈ wsX3_remember := by decide +kernel
set_option maxHeartbeats 4000000 in
set_option maxRecDepth 100000 in
theorem bkX3_remember {l : Launch} {dC : Nat → ClassId} {dI : Nat → Nat → Nat} {cB cI cJ cZ cS : ClassId} {a b b2 c0 : Nat → Nat} {bb : Nat → Nat → Nat} {as : List Value} {s' : PS} (s : PS) (hB : kX3_remember s = some s') : BlkV l yX3_remember wsX3_remember ({ frames := 2, cells := 0, slots := 0, locals := 85 }) cX3_remember 2 none (dC, dI) (tysA cB cI cJ cZ cS) as 0 (wR cI cZ cS a b b2 c0 bb s) [(0, .ref (c0 1)), (1, .ref (b 0))] [] (fun u => u = (wR cI cZ cS a b b2 c0 bb s')) := by
  intro p e s0 m below meth c A E H locs ls hP hD hS hl
  obtain ⟨C, hr, hlocks, hA, hK, hN⟩ := id E
  obtain ⟨hx, hb, hml, hown, hts⟩ := id C
  unfold kX3_remember at hB
  refine lv_aload_n hx hb dX3_remember_0 rfl (lv_at hl 0 rfl) ?_
  refine q_get (v := .ref (c0 2)) C inX3_remember_X3 hK hP 1 rfl rfl 0 (by decide) rfl LX3_remember_11 rfl dX3_remember_1 ?_
  refine lv_aload_n hx hb dX3_remember_4 rfl (lv_at hl 0 rfl) ?_
  refine q_get (v := .int (s.g.v 3)) C inX3_remember_X3 hK hP 1 rfl rfl 3 (by decide) rfl LX3_remember_29 rfl dX3_remember_5 ?_
  refine lv_aload_n hx hb dX3_remember_8 rfl (lv_at hl 0 rfl) ?_
  refine q_get (v := .int (s.g.v 4)) C inX3_remember_X3 hK hP 1 rfl rfl 4 (by decide) rfl LX3_remember_25 rfl dX3_remember_9 ?_
  refine lv_iadd hx hb dX3_remember_12 ?_
  refine lv_bipush (v := 40) hx hb dX3_remember_13 (by decide) ?_
  refine lv_irem hx hb dX3_remember_15 (by decide) ?_
  obtain ⟨g1, hB⟩ := guard_inv hB
  refine q_aldq (x := bb (Int32.toNatClampNeg (((s.g.v 3) + (s.g.v 4)) - ((s.g.v 3) + (s.g.v 4)) / 40 * 40)) 0) C hK hP 2 4 rfl rfl (vpb_in g1) dX3_remember_16 rfl ?_
  refine lv_aload_n hx hb dX3_remember_17 rfl (lv_at hl 1 rfl) ?_
  have hK_ : (Int32.toNatClampNeg (((s.g.v 3) + (s.g.v 4)) - ((s.g.v 3) + (s.g.v 4)) / 40 * 40)) < 43 := by have := vpb_lt g1; omega
  obtain ⟨pre, suf, hp1, hp2⟩ := pool_at (cI := cI) (bb := bb) (r := s.r) (n := 43) hK_
  have hP : va_P (dC, dI) vwCl (((wG cZ cS a b b2 c0 (rgP bb) (slP bb) s.g ++ wD cI b s.n) ++ wD cI (bb (Int32.toNatClampNeg (((s.g.v 3) + (s.g.v 4)) - ((s.g.v 3) + (s.g.v 4)) / 40 * 40))) (s.r (Int32.toNatClampNeg (((s.g.v 3) + (s.g.v 4)) - ((s.g.v 3) + (s.g.v 4)) / 40 * 40)))) ++ (pre ++ suf)) H := pool_outP hp1 hP
  have hD : va_D A (((wG cZ cS a b b2 c0 (rgP bb) (slP bb) s.g ++ wD cI b s.n) ++ wD cI (bb (Int32.toNatClampNeg (((s.g.v 3) + (s.g.v 4)) - ((s.g.v 3) + (s.g.v 4)) / 40 * 40))) (s.r (Int32.toNatClampNeg (((s.g.v 3) + (s.g.v 4)) - ((s.g.v 3) + (s.g.v 4)) / 40 * 40)))) ++ (pre ++ suf)) := pool_outD hp1 hD
  obtain ⟨s2, hc, hB⟩ := bindP_inv hB
  refine q_govT (X := ((wG cZ cS a b b2 c0 (rgP bb) (slP bb) s.g ++ wD cI b s.n) ++ wD cI (bb (Int32.toNatClampNeg (((s.g.v 3) + (s.g.v 4)) - ((s.g.v 3) + (s.g.v 4)) / 40 * 40))) (s.r (Int32.toNatClampNeg (((s.g.v 3) + (s.g.v 4)) - ((s.g.v 3) + (s.g.v 4)) / 40 * 40))))) (wr := wG cZ cS a b b2 c0 (rgP bb) (slP bb) s.g) (va_runVN (As := [.ref (b 0)]) (rest := []) C (ckX6_copyFrom (b := bb (Int32.toNatClampNeg (((s.g.v 3) + (s.g.v 4)) - ((s.g.v 3) + (s.g.v 4)) / 40 * 40))) (b2 := b) hc _) ⟨va_cnB 1 hts gX3_remember_X6_copyFrom_n32 rfl rfl rfl (hN _ nwM_X3_32 rfl) (hts _ LX3_remember_I_X6) (by decide +kernel) ⟨Nat.le_of_ble_eq_true rfl, Nat.le_of_ble_eq_true rfl⟩, hts _ LX3_remember_N_X6_copyFrom, hts _ LX3_remember_E_X6_copyFrom⟩ (q_preV hK hP (ci := 6) (q0 := 11) rfl rfl rfl (q_pre hN hK hP hD [5, 6, 7, 8, 9, 10, 11, 12, 13, 14, 15, 16] rfl (by decide))) rfl rfl hl.1 rfl (lv_room (Nat.le_of_ble_eq_true rfl)) dX3_remember_18 ⟨Nat.le_of_ble_eq_true rfl, Nat.le_of_ble_eq_true rfl⟩) hP hD hS hA [5, 6, 7, 8, 9, 10, 11, 12, 13, 14, 15, 16] [0, 1, 2, 3, 4] rfl rfl (by decide) (by decide) (fun w1 H locs hw hP hD hS => ?_)
  subst hw
  obtain ⟨s3, hs4, hB⟩ := letS_inv hB
  have hP : va_P (dC, dI) vwCl (((wG cZ cS a b b2 c0 (rgP bb) (slP bb) s.g ++ wD cI b s2.e) ++ wD cI (bb (Int32.toNatClampNeg (((s.g.v 3) + (s.g.v 4)) - ((s.g.v 3) + (s.g.v 4)) / 40 * 40))) s2.d) ++ (pre ++ suf)) H := hP.part [0, 1, 2, 3, 4, 5, 6, 7, 8, 9, 10, 11, 12, 13, 14, 15, 16] rfl
  have hD : va_D A (((wG cZ cS a b b2 c0 (rgP bb) (slP bb) s.g ++ wD cI b s2.e) ++ wD cI (bb (Int32.toNatClampNeg (((s.g.v 3) + (s.g.v 4)) - ((s.g.v 3) + (s.g.v 4)) / 40 * 40))) s2.d) ++ (pre ++ suf)) := hD.part [0, 1, 2, 3, 4, 5, 6, 7, 8, 9, 10, 11, 12, 13, 14, 15, 16] (by decide) rfl
  have hP : va_P (dC, dI) vwCl (wR cI cZ cS a b b2 c0 bb s3) H := by subst hs4; exact pool_inP (hp2 s2.d) hP
  have hD : va_D A (wR cI cZ cS a b b2 c0 bb s3) := by subst hs4; exact pool_inD (hp2 s2.d) hD
  refine lv_aload_n hx hb dX3_remember_21 rfl (lv_at hl 0 rfl) ?_
  refine q_get (v := .int (s3.g.v 4)) C inX3_remember_X3 hK hP 1 rfl rfl 4 (by decide) rfl LX3_remember_25 rfl dX3_remember_22 ?_
  refine lv_bipush (v := 40) hx hb dX3_remember_25 (by decide) ?_
  refine lv_icmp_ge (tgt := 43) hx hb dX3_remember_27 (by decide) (fun c5 => ?_) (fun c5 => ?_)
  · have hB := if_p hB c5
    refine lv_aload_n hx hb dX3_remember_43 rfl (lv_at hl 0 rfl) ?_
    refine lv_aload_n hx hb dX3_remember_44 rfl (lv_at hl 0 rfl) ?_
    refine q_get (v := .int (s3.g.v 3)) C inX3_remember_X3 hK hP 1 rfl rfl 3 (by decide) rfl LX3_remember_29 rfl dX3_remember_45 ?_
    refine lv_iconst (v := 1) hx hb dX3_remember_48 (by decide) ?_
    refine lv_iadd hx hb dX3_remember_49 ?_
    refine lv_bipush (v := 40) hx hb dX3_remember_50 (by decide) ?_
    refine lv_irem hx hb dX3_remember_52 (by decide) ?_
    obtain ⟨s6, hs7, hB⟩ := letS_inv hB
    refine q_put (ty := .int) (w2 := (wR cI cZ cS a b b2 c0 bb s6)) tyX3 tyX3_ok nmX3 C inX3_remember_X3 hK hP hD hS 1 rfl rfl 3 (by decide) rfl LX3_remember_29 rfl (by decide +kernel) (rfl) rfl (Nat.le_of_ble_eq_true rfl) dX3_remember_53 (by subst hs7; rfl) (fun H locs hP hD hS => ?_)
    exact q_vret C hr hlocks hK hP hD hS (Nat.le_of_ble_eq_true rfl) (Nat.le_of_ble_eq_true rfl) dX3_remember_56 (by cases hB; rfl)
  · have hB := if_n hB c5
    refine lv_aload_n hx hb dX3_remember_30 rfl (lv_at hl 0 rfl) ?_
    refine lv_dup hx hb dX3_remember_31 rfl ?_
    refine q_get (v := .int (s3.g.v 4)) C inX3_remember_X3 hK hP 1 rfl rfl 4 (by decide) rfl LX3_remember_25 rfl dX3_remember_32 ?_
    refine lv_iconst (v := 1) hx hb dX3_remember_35 (by decide) ?_
    refine lv_iadd hx hb dX3_remember_36 ?_
    obtain ⟨s8, hs9, hB⟩ := letS_inv hB
    refine q_put (ty := .int) (w2 := (wR cI cZ cS a b b2 c0 bb s8)) tyX3 tyX3_ok nmX3 C inX3_remember_X3 hK hP hD hS 1 rfl rfl 4 (by decide) rfl LX3_remember_25 rfl (by decide +kernel) (rfl) rfl (Nat.le_of_ble_eq_true rfl) dX3_remember_37 (by subst hs9; rfl) (fun H locs hP hD hS => ?_)
    refine lv_goto (tgt := 56) hx hb dX3_remember_40 (by decide) ?_
    exact q_vret C hr hlocks hK hP hD hS (Nat.le_of_ble_eq_true rfl) (Nat.le_of_ble_eq_true rfl) dX3_remember_56 (by cases hB; rfl)
theorem ckX3_remember {l : Launch} {dC : Nat → ClassId} {dI : Nat → Nat → Nat} {cB cI cJ cZ cS : ClassId} {a b b2 c0 : Nat → Nat} {bb : Nat → Nat → Nat} {s' : PS} {s : PS} (hB : kX3_remember s = some s') : CV l yX3_remember wsX3_remember ({ frames := 2, cells := 0, slots := 0, locals := 85 }) (dC, dI) (tysA cB cI cJ cZ cS) (wR cI cZ cS a b b2 c0 bb s) [.ref (c0 1), .ref (b 0)] (fun u => u = (wR cI cZ cS a b b2 c0 bb s')) :=
  CV_of (cc := cX3_remember) (maxL := 2) (ret := none) (by decide) rfl (Nat.le_of_ble_eq_true rfl) (bkX3_remember _ hB)
theorem LX3_takeBack_11 : Cond.fieldLink RX3 11 "GuessFerry$Past" "ring" "[LGuessFerry$Standing;" ∈ wsX3_takeBack := by decide +kernel
theorem LX3_takeBack_25 : Cond.fieldLink RX3 25 "GuessFerry$Past" "size" "I" ∈ wsX3_takeBack := by decide +kernel
theorem LX3_takeBack_29 : Cond.fieldLink RX3 29 "GuessFerry$Past" "first" "I" ∈ wsX3_takeBack := by decide +kernel
theorem LX3_takeBack_E_X6_copyFrom : Cond.selects RX6 yX6_copyFrom yX6_copyFrom ∈ wsX3_takeBack := by decide +kernel
theorem LX3_takeBack_I_X6 : Cond.initialized RX6 ∈ wsX3_takeBack := by decide +kernel
theorem LX3_takeBack_N_X6_copyFrom : Cond.instanceMethod yX6_copyFrom ∈ wsX3_takeBack := by decide +kernel
theorem inX3_takeBack_X3 : ∀ w ∈ u_ws RX3 TX3 5, w ∈ wsX3_takeBack := by decide +kernel
set_option maxHeartbeats 4000000 in
set_option maxRecDepth 100000 in
theorem bkX3_takeBack {l : Launch} {dC : Nat → ClassId} {dI : Nat → Nat → Nat} {cB cI cJ cZ cS : ClassId} {a b b2 c0 : Nat → Nat} {bb : Nat → Nat → Nat} {as : List Value} {r : Int32} {s' : PS} (s : PS) (hB : kX3_takeBack s = some (r, s')) : BlkI l yX3_takeBack wsX3_takeBack ({ frames := 2, cells := 0, slots := 0, locals := 85 }) cX3_takeBack 2 (some .boolean) (dC, dI) (tysA cB cI cJ cZ cS) as 0 (wR cI cZ cS a b b2 c0 bb s) [(0, .ref (c0 1)), (1, .ref (b 0))] [] (fun x u => x = r ∧ u = (wR cI cZ cS a b b2 c0 bb s')) := by
  intro p e s0 m below meth c A E H locs ls hP hD hS hl
  obtain ⟨C, hr, hlocks, hA, hK, hN⟩ := id E
  obtain ⟨hx, hb, hml, hown, hts⟩ := id C
  unfold kX3_takeBack at hB
  refine lv_aload_n hx hb dX3_takeBack_0 rfl (lv_at hl 0 rfl) ?_
  refine q_get (v := .int (s.g.v 4)) C inX3_takeBack_X3 hK hP 1 rfl rfl 4 (by decide) rfl LX3_takeBack_25 rfl dX3_takeBack_1 ?_
  refine lv_if_ne (tgt := 9) hx hb dX3_takeBack_4 (by decide) (fun c1 => ?_) (fun c1 => ?_)
  · have hB := if_n hB c1
    refine lv_aload_n hx hb dX3_takeBack_9 rfl (lv_at hl 0 rfl) ?_
    refine lv_dup hx hb dX3_takeBack_10 rfl ?_
    refine q_get (v := .int (s.g.v 4)) C inX3_takeBack_X3 hK hP 1 rfl rfl 4 (by decide) rfl LX3_takeBack_25 rfl dX3_takeBack_11 ?_
    refine lv_iconst (v := 1) hx hb dX3_takeBack_14 (by decide) ?_
    refine lv_isub hx hb dX3_takeBack_15 ?_
    obtain ⟨s2, hs3, hB⟩ := letS_inv hB
    refine q_put (ty := .int) (w2 := (wR cI cZ cS a b b2 c0 bb s2)) tyX3 tyX3_ok nmX3 C inX3_takeBack_X3 hK hP hD hS 1 rfl rfl 4 (by decide) rfl LX3_takeBack_25 rfl (by decide +kernel) (rfl) rfl (Nat.le_of_ble_eq_true rfl) dX3_takeBack_16 (by subst hs3; rfl) (fun H locs hP hD hS => ?_)
    refine lv_aload_n hx hb dX3_takeBack_19 rfl (lv_at hl 1 rfl) ?_
    refine lv_aload_n hx hb dX3_takeBack_20 rfl (lv_at hl 0 rfl) ?_
    refine q_get (v := .ref (c0 2)) C inX3_takeBack_X3 hK hP 1 rfl rfl 0 (by decide) rfl LX3_takeBack_11 rfl dX3_takeBack_21 ?_
    refine lv_aload_n hx hb dX3_takeBack_24 rfl (lv_at hl 0 rfl) ?_
    refine q_get (v := .int (s2.g.v 3)) C inX3_takeBack_X3 hK hP 1 rfl rfl 3 (by decide) rfl LX3_takeBack_29 rfl dX3_takeBack_25 ?_
    refine lv_aload_n hx hb dX3_takeBack_28 rfl (lv_at hl 0 rfl) ?_
    refine q_get (v := .int (s2.g.v 4)) C inX3_takeBack_X3 hK hP 1 rfl rfl 4 (by decide) rfl LX3_takeBack_25 rfl dX3_takeBack_29 ?_
    refine lv_iadd hx hb dX3_takeBack_32 ?_
    refine lv_bipush (v := 40) hx hb dX3_takeBack_33 (by decide) ?_
    refine lv_irem hx hb dX3_takeBack_35 (by decide) ?_
    obtain ⟨g4, hB⟩ := guard_inv hB
    refine q_aldq (x := bb (Int32.toNatClampNeg (((s2.g.v 3) + (s2.g.v 4)) - ((s2.g.v 3) + (s2.g.v 4)) / 40 * 40)) 0) C hK hP 2 4 rfl rfl (vpb_in g4) dX3_takeBack_36 rfl ?_
    have hK_ : (Int32.toNatClampNeg (((s2.g.v 3) + (s2.g.v 4)) - ((s2.g.v 3) + (s2.g.v 4)) / 40 * 40)) < 43 := by have := vpb_lt g4; omega
    obtain ⟨pre, suf, hp1, hp2⟩ := pool_at (cI := cI) (bb := bb) (r := s2.r) (n := 43) hK_
    have hP : va_P (dC, dI) vwCl (((wG cZ cS a b b2 c0 (rgP bb) (slP bb) s2.g ++ wD cI b s2.n) ++ wD cI (bb (Int32.toNatClampNeg (((s2.g.v 3) + (s2.g.v 4)) - ((s2.g.v 3) + (s2.g.v 4)) / 40 * 40))) (s2.r (Int32.toNatClampNeg (((s2.g.v 3) + (s2.g.v 4)) - ((s2.g.v 3) + (s2.g.v 4)) / 40 * 40)))) ++ (pre ++ suf)) H := pool_outP hp1 hP
    have hD : va_D A (((wG cZ cS a b b2 c0 (rgP bb) (slP bb) s2.g ++ wD cI b s2.n) ++ wD cI (bb (Int32.toNatClampNeg (((s2.g.v 3) + (s2.g.v 4)) - ((s2.g.v 3) + (s2.g.v 4)) / 40 * 40))) (s2.r (Int32.toNatClampNeg (((s2.g.v 3) + (s2.g.v 4)) - ((s2.g.v 3) + (s2.g.v 4)) / 40 * 40)))) ++ (pre ++ suf)) := pool_outD hp1 hD
    obtain ⟨s5, hc, hB⟩ := bindP_inv hB
    refine q_govT (X := ((wG cZ cS a b b2 c0 (rgP bb) (slP bb) s2.g ++ wD cI b s2.n) ++ wD cI (bb (Int32.toNatClampNeg (((s2.g.v 3) + (s2.g.v 4)) - ((s2.g.v 3) + (s2.g.v 4)) / 40 * 40))) (s2.r (Int32.toNatClampNeg (((s2.g.v 3) + (s2.g.v 4)) - ((s2.g.v 3) + (s2.g.v 4)) / 40 * 40))))) (wr := wG cZ cS a b b2 c0 (rgP bb) (slP bb) s2.g) (va_runVN (As := [.ref (bb (Int32.toNatClampNeg (((s2.g.v 3) + (s2.g.v 4)) - ((s2.g.v 3) + (s2.g.v 4)) / 40 * 40)) 0)]) (rest := []) C (ckX6_copyFrom (b := b) (b2 := bb (Int32.toNatClampNeg (((s2.g.v 3) + (s2.g.v 4)) - ((s2.g.v 3) + (s2.g.v 4)) / 40 * 40))) hc _) ⟨va_cnB 1 hts gX3_takeBack_X6_copyFrom_n32 rfl rfl rfl (hN _ nwM_X3_32 rfl) (hts _ LX3_takeBack_I_X6) (by decide +kernel) ⟨Nat.le_of_ble_eq_true rfl, Nat.le_of_ble_eq_true rfl⟩, hts _ LX3_takeBack_N_X6_copyFrom, hts _ LX3_takeBack_E_X6_copyFrom⟩ (q_preV hK hP (ci := 6) (q0 := 5) rfl rfl rfl (q_pre hN hK hP hD [11, 12, 13, 14, 15, 16, 5, 6, 7, 8, 9, 10] rfl (by decide))) rfl rfl hl.1 rfl (lv_room (Nat.le_of_ble_eq_true rfl)) dX3_takeBack_37 ⟨Nat.le_of_ble_eq_true rfl, Nat.le_of_ble_eq_true rfl⟩) hP hD hS hA [11, 12, 13, 14, 15, 16, 5, 6, 7, 8, 9, 10] [0, 1, 2, 3, 4] rfl rfl (by decide) (by decide) (fun w1 H locs hw hP hD hS => ?_)
    subst hw
    obtain ⟨s6, hs7, hB⟩ := letS_inv hB
    have hP : va_P (dC, dI) vwCl (((wG cZ cS a b b2 c0 (rgP bb) (slP bb) s2.g ++ wD cI b s5.d) ++ wD cI (bb (Int32.toNatClampNeg (((s2.g.v 3) + (s2.g.v 4)) - ((s2.g.v 3) + (s2.g.v 4)) / 40 * 40))) s5.e) ++ (pre ++ suf)) H := hP.part [0, 1, 2, 3, 4, 11, 12, 13, 14, 15, 16, 5, 6, 7, 8, 9, 10] rfl
    have hD : va_D A (((wG cZ cS a b b2 c0 (rgP bb) (slP bb) s2.g ++ wD cI b s5.d) ++ wD cI (bb (Int32.toNatClampNeg (((s2.g.v 3) + (s2.g.v 4)) - ((s2.g.v 3) + (s2.g.v 4)) / 40 * 40))) s5.e) ++ (pre ++ suf)) := hD.part [0, 1, 2, 3, 4, 11, 12, 13, 14, 15, 16, 5, 6, 7, 8, 9, 10] (by decide) rfl
    have hP : va_P (dC, dI) vwCl (wR cI cZ cS a b b2 c0 bb s6) H := by subst hs7; exact pool_inP (hp2 s5.e) hP
    have hD : va_D A (wR cI cZ cS a b b2 c0 bb s6) := by subst hs7; exact pool_inD (hp2 s5.e) hD
    refine lv_iconst (v := 1) hx hb dX3_takeBack_40 (by decide) ?_
    exact q_zret C hr hlocks (Or.inr rfl) hK hP hD hS (Nat.le_of_ble_eq_true rfl) (Nat.le_of_ble_eq_true rfl) dX3_takeBack_41 (by cases hB; exact ⟨rfl, rfl⟩)
  · have hB := if_p hB c1
    refine lv_iconst (v := 0) hx hb dX3_takeBack_7 (by decide) ?_
    exact q_zret C hr hlocks (Or.inl rfl) hK hP hD hS (Nat.le_of_ble_eq_true rfl) (Nat.le_of_ble_eq_true rfl) dX3_takeBack_8 (by cases hB; exact ⟨rfl, rfl⟩)
theorem ckX3_takeBack {l : Launch} {dC : Nat → ClassId} {dI : Nat → Nat → Nat} {cB cI cJ cZ cS : ClassId} {a b b2 c0 : Nat → Nat} {bb : Nat → Nat → Nat} {r : Int32} {s' : PS} {s : PS} (hB : kX3_takeBack s = some (r, s')) : CI l yX3_takeBack wsX3_takeBack ({ frames := 2, cells := 0, slots := 0, locals := 85 }) (dC, dI) (tysA cB cI cJ cZ cS) (wR cI cZ cS a b b2 c0 bb s) [.ref (c0 1), .ref (b 0)] (fun x u => x = r ∧ u = (wR cI cZ cS a b b2 c0 bb s')) :=
  CI_of (cc := cX3_takeBack) (maxL := 2) (ret := (some .boolean)) (by decide) rfl (Nat.le_of_ble_eq_true rfl) (bkX3_takeBack _ hB)
theorem LX3_keepIn_17 : Cond.fieldLink RX3 17 "GuessFerry$Past" "slots" "[LGuessFerry$Standing;" ∈ wsX3_keepIn := by decide +kernel
theorem LX3_keepIn_20 : Cond.fieldLink RX3 20 "GuessFerry$Past" "isHeld" "[Z" ∈ wsX3_keepIn := by decide +kernel
theorem LX3_keepIn_E_X6_copyFrom : Cond.selects RX6 yX6_copyFrom yX6_copyFrom ∈ wsX3_keepIn := by decide +kernel
theorem LX3_keepIn_I_X6 : Cond.initialized RX6 ∈ wsX3_keepIn := by decide +kernel
theorem LX3_keepIn_N_X6_copyFrom : Cond.instanceMethod yX6_copyFrom ∈ wsX3_keepIn := by decide +kernel
theorem inX3_keepIn_X3 : ∀ w ∈ u_ws RX3 TX3 5, w ∈ wsX3_keepIn := by decide +kernel
set_option maxHeartbeats 4000000 in
set_option maxRecDepth 100000 in
theorem bkX3_keepIn {l : Launch} {dC : Nat → ClassId} {dI : Nat → Nat → Nat} {cB cI cJ cZ cS : ClassId} {a b b2 c0 : Nat → Nat} {bb : Nat → Nat → Nat} {as : List Value} {r : Int32} {s' : PS} (s : PS) (x1 : Int32) (hB : kX3_keepIn s x1 = some (r, s')) : BlkI l yX3_keepIn wsX3_keepIn ({ frames := 2, cells := 0, slots := 0, locals := 85 }) cX3_keepIn 3 (some .boolean) (dC, dI) (tysA cB cI cJ cZ cS) as 0 (wR cI cZ cS a b b2 c0 bb s) [(0, .ref (c0 1)), (1, .int x1), (2, .ref (b 0))] [] (fun x u => x = r ∧ u = (wR cI cZ cS a b b2 c0 bb s')) := by
  intro p e s0 m below meth c A E H locs ls hP hD hS hl
  obtain ⟨C, hr, hlocks, hA, hK, hN⟩ := id E
  obtain ⟨hx, hb, hml, hown, hts⟩ := id C
  unfold kX3_keepIn at hB
  refine lv_iload_n hx hb dX3_keepIn_0 rfl (lv_at hl 1 rfl) ?_
  refine lv_if_lt (tgt := 9) hx hb dX3_keepIn_1 (by decide) (fun c1 => ?_) (fun c1 => ?_)
  · have hB := if_p hB c1
    refine lv_iconst (v := 0) hx hb dX3_keepIn_9 (by decide) ?_
    exact q_zret C hr hlocks (Or.inl rfl) hK hP hD hS (Nat.le_of_ble_eq_true rfl) (Nat.le_of_ble_eq_true rfl) dX3_keepIn_10 (by cases hB; exact ⟨rfl, rfl⟩)
  · have hB := if_n hB c1
    refine lv_iload_n hx hb dX3_keepIn_4 rfl (lv_at hl 1 rfl) ?_
    refine lv_iconst (v := 3) hx hb dX3_keepIn_5 (by decide) ?_
    refine lv_icmp_lt (tgt := 11) hx hb dX3_keepIn_6 (by decide) (fun c2 => ?_) (fun c2 => ?_)
    · have hB := if_p hB c2
      refine lv_aload_n hx hb dX3_keepIn_11 rfl (lv_at hl 0 rfl) ?_
      refine q_get (v := .ref (c0 3)) C inX3_keepIn_X3 hK hP 1 rfl rfl 1 (by decide) rfl LX3_keepIn_17 rfl dX3_keepIn_12 ?_
      refine lv_iload_n hx hb dX3_keepIn_15 rfl (lv_at hl 1 rfl) ?_
      obtain ⟨g3, hB⟩ := guard_inv hB
      refine q_aldq (x := bb (40 + (Int32.toNatClampNeg x1)) 0) C hK hP 3 4 rfl rfl (vpb_in g3) dX3_keepIn_16 rfl ?_
      refine lv_aload_n hx hb dX3_keepIn_17 rfl (lv_at hl 2 rfl) ?_
      have hK_ : (40 + (Int32.toNatClampNeg x1)) < 43 := by have := vpb_lt g3; omega
      obtain ⟨pre, suf, hp1, hp2⟩ := pool_at (cI := cI) (bb := bb) (r := s.r) (n := 43) hK_
      have hP : va_P (dC, dI) vwCl (((wG cZ cS a b b2 c0 (rgP bb) (slP bb) s.g ++ wD cI b s.n) ++ wD cI (bb (40 + (Int32.toNatClampNeg x1))) (s.r (40 + (Int32.toNatClampNeg x1)))) ++ (pre ++ suf)) H := pool_outP hp1 hP
      have hD : va_D A (((wG cZ cS a b b2 c0 (rgP bb) (slP bb) s.g ++ wD cI b s.n) ++ wD cI (bb (40 + (Int32.toNatClampNeg x1))) (s.r (40 + (Int32.toNatClampNeg x1)))) ++ (pre ++ suf)) := pool_outD hp1 hD
      obtain ⟨s4, hc, hB⟩ := bindP_inv hB
      refine q_govT (X := ((wG cZ cS a b b2 c0 (rgP bb) (slP bb) s.g ++ wD cI b s.n) ++ wD cI (bb (40 + (Int32.toNatClampNeg x1))) (s.r (40 + (Int32.toNatClampNeg x1))))) (wr := wG cZ cS a b b2 c0 (rgP bb) (slP bb) s.g) (va_runVN (As := [.ref (b 0)]) (rest := []) C (ckX6_copyFrom (b := bb (40 + (Int32.toNatClampNeg x1))) (b2 := b) hc _) ⟨va_cnB 1 hts gX3_keepIn_X6_copyFrom_n32 rfl rfl rfl (hN _ nwM_X3_32 rfl) (hts _ LX3_keepIn_I_X6) (by decide +kernel) ⟨Nat.le_of_ble_eq_true rfl, Nat.le_of_ble_eq_true rfl⟩, hts _ LX3_keepIn_N_X6_copyFrom, hts _ LX3_keepIn_E_X6_copyFrom⟩ (q_preV hK hP (ci := 6) (q0 := 11) rfl rfl rfl (q_pre hN hK hP hD [5, 6, 7, 8, 9, 10, 11, 12, 13, 14, 15, 16] rfl (by decide))) rfl rfl hl.1 rfl (lv_room (Nat.le_of_ble_eq_true rfl)) dX3_keepIn_18 ⟨Nat.le_of_ble_eq_true rfl, Nat.le_of_ble_eq_true rfl⟩) hP hD hS hA [5, 6, 7, 8, 9, 10, 11, 12, 13, 14, 15, 16] [0, 1, 2, 3, 4] rfl rfl (by decide) (by decide) (fun w1 H locs hw hP hD hS => ?_)
      subst hw
      obtain ⟨s5, hs6, hB⟩ := letS_inv hB
      have hP : va_P (dC, dI) vwCl (((wG cZ cS a b b2 c0 (rgP bb) (slP bb) s.g ++ wD cI b s4.e) ++ wD cI (bb (40 + (Int32.toNatClampNeg x1))) s4.d) ++ (pre ++ suf)) H := hP.part [0, 1, 2, 3, 4, 5, 6, 7, 8, 9, 10, 11, 12, 13, 14, 15, 16] rfl
      have hD : va_D A (((wG cZ cS a b b2 c0 (rgP bb) (slP bb) s.g ++ wD cI b s4.e) ++ wD cI (bb (40 + (Int32.toNatClampNeg x1))) s4.d) ++ (pre ++ suf)) := hD.part [0, 1, 2, 3, 4, 5, 6, 7, 8, 9, 10, 11, 12, 13, 14, 15, 16] (by decide) rfl
      have hP : va_P (dC, dI) vwCl (wR cI cZ cS a b b2 c0 bb s5) H := by subst hs6; exact pool_inP (hp2 s4.d) hP
      have hD : va_D A (wR cI cZ cS a b b2 c0 bb s5) := by subst hs6; exact pool_inD (hp2 s4.d) hD
      refine lv_aload_n hx hb dX3_keepIn_21 rfl (lv_at hl 0 rfl) ?_
      refine q_get (v := .ref (c0 4)) C inX3_keepIn_X3 hK hP 1 rfl rfl 2 (by decide) rfl LX3_keepIn_20 rfl dX3_keepIn_22 ?_
      refine lv_iload_n hx hb dX3_keepIn_25 rfl (lv_at hl 1 rfl) ?_
      refine lv_iconst (v := 1) hx hb dX3_keepIn_26 (by decide) ?_
      obtain ⟨g7, hB⟩ := guard_inv hB
      obtain ⟨s8, hs9, hB⟩ := letS_inv hB
      refine q_zast (f2 := (upd (s5.g.f 4) (Int32.toNatClampNeg x1) (vp_nar .boolean 1))) (w2 := (wR cI cZ cS a b b2 c0 bb s8)) C hK hP hD hS 4 3 rfl rfl (vpb_in g7) dX3_keepIn_27 rfl (by subst hs9; rfl) (fun H locs hP hD hS => ?_)
      refine lv_iconst (v := 1) hx hb dX3_keepIn_28 (by decide) ?_
      exact q_zret C hr hlocks (Or.inr rfl) hK hP hD hS (Nat.le_of_ble_eq_true rfl) (Nat.le_of_ble_eq_true rfl) dX3_keepIn_29 (by cases hB; exact ⟨rfl, rfl⟩)
    · have hB := if_n hB c2
      refine lv_iconst (v := 0) hx hb dX3_keepIn_9 (by decide) ?_
      exact q_zret C hr hlocks (Or.inl rfl) hK hP hD hS (Nat.le_of_ble_eq_true rfl) (Nat.le_of_ble_eq_true rfl) dX3_keepIn_10 (by cases hB; exact ⟨rfl, rfl⟩)
theorem ckX3_keepIn {l : Launch} {dC : Nat → ClassId} {dI : Nat → Nat → Nat} {cB cI cJ cZ cS : ClassId} {a b b2 c0 : Nat → Nat} {bb : Nat → Nat → Nat} {r : Int32} {s' : PS} {s : PS} {x1 : Int32} (hB : kX3_keepIn s x1 = some (r, s')) : CI l yX3_keepIn wsX3_keepIn ({ frames := 2, cells := 0, slots := 0, locals := 85 }) (dC, dI) (tysA cB cI cJ cZ cS) (wR cI cZ cS a b b2 c0 bb s) [.ref (c0 1), .int x1, .ref (b 0)] (fun x u => x = r ∧ u = (wR cI cZ cS a b b2 c0 bb s')) :=
  CI_of (cc := cX3_keepIn) (maxL := 3) (ret := (some .boolean)) (by decide) rfl (Nat.le_of_ble_eq_true rfl) (bkX3_keepIn _ _ hB)
theorem LX3_goOnFrom_17 : Cond.fieldLink RX3 17 "GuessFerry$Past" "slots" "[LGuessFerry$Standing;" ∈ wsX3_goOnFrom := by decide +kernel
theorem LX3_goOnFrom_20 : Cond.fieldLink RX3 20 "GuessFerry$Past" "isHeld" "[Z" ∈ wsX3_goOnFrom := by decide +kernel
theorem LX3_goOnFrom_25 : Cond.fieldLink RX3 25 "GuessFerry$Past" "size" "I" ∈ wsX3_goOnFrom := by decide +kernel
theorem LX3_goOnFrom_E_X6_copyFrom : Cond.selects RX6 yX6_copyFrom yX6_copyFrom ∈ wsX3_goOnFrom := by decide +kernel
theorem LX3_goOnFrom_I_X6 : Cond.initialized RX6 ∈ wsX3_goOnFrom := by decide +kernel
theorem LX3_goOnFrom_N_X6_copyFrom : Cond.instanceMethod yX6_copyFrom ∈ wsX3_goOnFrom := by decide +kernel
theorem inX3_goOnFrom_X3 : ∀ w ∈ u_ws RX3 TX3 5, w ∈ wsX3_goOnFrom := by decide +kernel
set_option maxHeartbeats 4000000 in
set_option maxRecDepth 100000 in
theorem bkX3_goOnFrom {l : Launch} {dC : Nat → ClassId} {dI : Nat → Nat → Nat} {cB cI cJ cZ cS : ClassId} {a b b2 c0 : Nat → Nat} {bb : Nat → Nat → Nat} {as : List Value} {r : Int32} {s' : PS} (s : PS) (x1 : Int32) (hB : kX3_goOnFrom s x1 = some (r, s')) : BlkI l yX3_goOnFrom wsX3_goOnFrom ({ frames := 2, cells := 0, slots := 0, locals := 85 }) cX3_goOnFrom 3 (some .boolean) (dC, dI) (tysA cB cI cJ cZ cS) as 0 (wR cI cZ cS a b b2 c0 bb s) [(0, .ref (c0 1)), (1, .int x1), (2, .ref (b 0))] [] (fun x u => x = r ∧ u = (wR cI cZ cS a b b2 c0 bb s')) := by
  intro p e s0 m below meth c A E H locs ls hP hD hS hl
  obtain ⟨C, hr, hlocks, hA, hK, hN⟩ := id E
  obtain ⟨hx, hb, hml, hown, hts⟩ := id C
  unfold kX3_goOnFrom at hB
  refine lv_iload_n hx hb dX3_goOnFrom_0 rfl (lv_at hl 1 rfl) ?_
  refine lv_if_lt (tgt := 18) hx hb dX3_goOnFrom_1 (by decide) (fun c1 => ?_) (fun c1 => ?_)
  · have hB := if_p hB c1
    refine lv_iconst (v := 0) hx hb dX3_goOnFrom_18 (by decide) ?_
    exact q_zret C hr hlocks (Or.inl rfl) hK hP hD hS (Nat.le_of_ble_eq_true rfl) (Nat.le_of_ble_eq_true rfl) dX3_goOnFrom_19 (by cases hB; exact ⟨rfl, rfl⟩)
  · have hB := if_n hB c1
    refine lv_iload_n hx hb dX3_goOnFrom_4 rfl (lv_at hl 1 rfl) ?_
    refine lv_iconst (v := 3) hx hb dX3_goOnFrom_5 (by decide) ?_
    refine lv_icmp_ge (tgt := 18) hx hb dX3_goOnFrom_6 (by decide) (fun c2 => ?_) (fun c2 => ?_)
    · have hB := if_p hB c2
      refine lv_iconst (v := 0) hx hb dX3_goOnFrom_18 (by decide) ?_
      exact q_zret C hr hlocks (Or.inl rfl) hK hP hD hS (Nat.le_of_ble_eq_true rfl) (Nat.le_of_ble_eq_true rfl) dX3_goOnFrom_19 (by cases hB; exact ⟨rfl, rfl⟩)
    · have hB := if_n hB c2
      refine lv_aload_n hx hb dX3_goOnFrom_9 rfl (lv_at hl 0 rfl) ?_
      refine q_get (v := .ref (c0 4)) C inX3_goOnFrom_X3 hK hP 1 rfl rfl 2 (by decide) rfl LX3_goOnFrom_20 rfl dX3_goOnFrom_10 ?_
      refine lv_iload_n hx hb dX3_goOnFrom_13 rfl (lv_at hl 1 rfl) ?_
      obtain ⟨g3, hB⟩ := guard_inv hB
      refine q_zald (x := ((s.g.f 4) (Int32.toNatClampNeg x1))) C hK hP 4 3 rfl rfl (vpb_in g3) dX3_goOnFrom_14 rfl ?_
      refine lv_if_ne (tgt := 20) hx hb dX3_goOnFrom_15 (by decide) (fun c4 => ?_) (fun c4 => ?_)
      · have hB := if_n hB c4
        refine lv_aload_n hx hb dX3_goOnFrom_20 rfl (lv_at hl 2 rfl) ?_
        refine lv_aload_n hx hb dX3_goOnFrom_21 rfl (lv_at hl 0 rfl) ?_
        refine q_get (v := .ref (c0 3)) C inX3_goOnFrom_X3 hK hP 1 rfl rfl 1 (by decide) rfl LX3_goOnFrom_17 rfl dX3_goOnFrom_22 ?_
        refine lv_iload_n hx hb dX3_goOnFrom_25 rfl (lv_at hl 1 rfl) ?_
        obtain ⟨g5, hB⟩ := guard_inv hB
        refine q_aldq (x := bb (40 + (Int32.toNatClampNeg x1)) 0) C hK hP 3 4 rfl rfl (vpb_in g5) dX3_goOnFrom_26 rfl ?_
        have hK_ : (40 + (Int32.toNatClampNeg x1)) < 43 := by have := vpb_lt g5; omega
        obtain ⟨pre, suf, hp1, hp2⟩ := pool_at (cI := cI) (bb := bb) (r := s.r) (n := 43) hK_
        have hP : va_P (dC, dI) vwCl (((wG cZ cS a b b2 c0 (rgP bb) (slP bb) s.g ++ wD cI b s.n) ++ wD cI (bb (40 + (Int32.toNatClampNeg x1))) (s.r (40 + (Int32.toNatClampNeg x1)))) ++ (pre ++ suf)) H := pool_outP hp1 hP
        have hD : va_D A (((wG cZ cS a b b2 c0 (rgP bb) (slP bb) s.g ++ wD cI b s.n) ++ wD cI (bb (40 + (Int32.toNatClampNeg x1))) (s.r (40 + (Int32.toNatClampNeg x1)))) ++ (pre ++ suf)) := pool_outD hp1 hD
        obtain ⟨s6, hc, hB⟩ := bindP_inv hB
        refine q_govT (X := ((wG cZ cS a b b2 c0 (rgP bb) (slP bb) s.g ++ wD cI b s.n) ++ wD cI (bb (40 + (Int32.toNatClampNeg x1))) (s.r (40 + (Int32.toNatClampNeg x1))))) (wr := wG cZ cS a b b2 c0 (rgP bb) (slP bb) s.g) (va_runVN (As := [.ref (bb (40 + (Int32.toNatClampNeg x1)) 0)]) (rest := []) C (ckX6_copyFrom (b := b) (b2 := bb (40 + (Int32.toNatClampNeg x1))) hc _) ⟨va_cnB 1 hts gX3_goOnFrom_X6_copyFrom_n32 rfl rfl rfl (hN _ nwM_X3_32 rfl) (hts _ LX3_goOnFrom_I_X6) (by decide +kernel) ⟨Nat.le_of_ble_eq_true rfl, Nat.le_of_ble_eq_true rfl⟩, hts _ LX3_goOnFrom_N_X6_copyFrom, hts _ LX3_goOnFrom_E_X6_copyFrom⟩ (q_preV hK hP (ci := 6) (q0 := 5) rfl rfl rfl (q_pre hN hK hP hD [11, 12, 13, 14, 15, 16, 5, 6, 7, 8, 9, 10] rfl (by decide))) rfl rfl hl.1 rfl (lv_room (Nat.le_of_ble_eq_true rfl)) dX3_goOnFrom_27 ⟨Nat.le_of_ble_eq_true rfl, Nat.le_of_ble_eq_true rfl⟩) hP hD hS hA [11, 12, 13, 14, 15, 16, 5, 6, 7, 8, 9, 10] [0, 1, 2, 3, 4] rfl rfl (by decide) (by decide) (fun w1 H locs hw hP hD hS => ?_)
        subst hw
        obtain ⟨s7, hs8, hB⟩ := letS_inv hB
        have hP : va_P (dC, dI) vwCl (((wG cZ cS a b b2 c0 (rgP bb) (slP bb) s.g ++ wD cI b s6.d) ++ wD cI (bb (40 + (Int32.toNatClampNeg x1))) s6.e) ++ (pre ++ suf)) H := hP.part [0, 1, 2, 3, 4, 11, 12, 13, 14, 15, 16, 5, 6, 7, 8, 9, 10] rfl
        have hD : va_D A (((wG cZ cS a b b2 c0 (rgP bb) (slP bb) s.g ++ wD cI b s6.d) ++ wD cI (bb (40 + (Int32.toNatClampNeg x1))) s6.e) ++ (pre ++ suf)) := hD.part [0, 1, 2, 3, 4, 11, 12, 13, 14, 15, 16, 5, 6, 7, 8, 9, 10] (by decide) rfl
        have hP : va_P (dC, dI) vwCl (wR cI cZ cS a b b2 c0 bb s7) H := by subst hs8; exact pool_inP (hp2 s6.e) hP
        have hD : va_D A (wR cI cZ cS a b b2 c0 bb s7) := by subst hs8; exact pool_inD (hp2 s6.e) hD
        refine lv_aload_n hx hb dX3_goOnFrom_30 rfl (lv_at hl 0 rfl) ?_
        refine lv_iconst (v := 0) hx hb dX3_goOnFrom_31 (by decide) ?_
        obtain ⟨s9, hs10, hB⟩ := letS_inv hB
        refine q_put (ty := .int) (w2 := (wR cI cZ cS a b b2 c0 bb s9)) tyX3 tyX3_ok nmX3 C inX3_goOnFrom_X3 hK hP hD hS 1 rfl rfl 4 (by decide) rfl LX3_goOnFrom_25 rfl (by decide +kernel) (rfl) rfl (Nat.le_of_ble_eq_true rfl) dX3_goOnFrom_32 (by subst hs10; rfl) (fun H locs hP hD hS => ?_)
        refine lv_iconst (v := 1) hx hb dX3_goOnFrom_35 (by decide) ?_
        exact q_zret C hr hlocks (Or.inr rfl) hK hP hD hS (Nat.le_of_ble_eq_true rfl) (Nat.le_of_ble_eq_true rfl) dX3_goOnFrom_36 (by cases hB; exact ⟨rfl, rfl⟩)
      · have hB := if_p hB c4
        refine lv_iconst (v := 0) hx hb dX3_goOnFrom_18 (by decide) ?_
        exact q_zret C hr hlocks (Or.inl rfl) hK hP hD hS (Nat.le_of_ble_eq_true rfl) (Nat.le_of_ble_eq_true rfl) dX3_goOnFrom_19 (by cases hB; exact ⟨rfl, rfl⟩)
theorem ckX3_goOnFrom {l : Launch} {dC : Nat → ClassId} {dI : Nat → Nat → Nat} {cB cI cJ cZ cS : ClassId} {a b b2 c0 : Nat → Nat} {bb : Nat → Nat → Nat} {r : Int32} {s' : PS} {s : PS} {x1 : Int32} (hB : kX3_goOnFrom s x1 = some (r, s')) : CI l yX3_goOnFrom wsX3_goOnFrom ({ frames := 2, cells := 0, slots := 0, locals := 85 }) (dC, dI) (tysA cB cI cJ cZ cS) (wR cI cZ cS a b b2 c0 bb s) [.ref (c0 1), .int x1, .ref (b 0)] (fun x u => x = r ∧ u = (wR cI cZ cS a b b2 c0 bb s')) :=
  CI_of (cc := cX3_goOnFrom) (maxL := 3) (ret := (some .boolean)) (by decide) rfl (Nat.le_of_ble_eq_true rfl) (bkX3_goOnFrom _ _ hB)
theorem LX4_readUnit_12 : Cond.fieldLink RX4 12 "GuessFerry$Reader" "draft" "LGuessFerry$Sound;" ∈ wsX4_readUnit := by decide +kernel
theorem LX4_readUnit_31 : Cond.fieldLink RX4 31 "GuessFerry$Reader" "tokens" "LGuessFerry$Tokens;" ∈ wsX4_readUnit := by decide +kernel
theorem LX4_readUnit_38 : Cond.fieldLink RX4 38 "GuessFerry$Reader" "at" "I" ∈ wsX4_readUnit := by decide +kernel
theorem LX4_readUnit_E_X1_putNumber : Cond.selects RX1 yX1_putNumber yX1_putNumber ∈ wsX4_readUnit := by decide +kernel
theorem LX4_readUnit_E_X1_putVar : Cond.selects RX1 yX1_putVar yX1_putVar ∈ wsX4_readUnit := by decide +kernel
theorem LX4_readUnit_I_X1 : Cond.initialized RX1 ∈ wsX4_readUnit := by decide +kernel
theorem LX4_readUnit_N_X1_putNumber : Cond.instanceMethod yX1_putNumber ∈ wsX4_readUnit := by decide +kernel
theorem LX4_readUnit_N_X1_putVar : Cond.instanceMethod yX1_putVar ∈ wsX4_readUnit := by decide +kernel
theorem inX4_readUnit_X4 : ∀ w ∈ u_ws RX4 TX4 8, w ∈ wsX4_readUnit := by decide +kernel
theorem inX4_readUnit_X5 : ∀ w ∈ u_ws RX5 TX5 10, w ∈ wsX4_readUnit := by decide +kernel
theorem inX4_readUnit_X9 : ∀ w ∈ u_ws RX9 TX9 7, w ∈ wsX4_readUnit := by decide +kernel
set_option maxHeartbeats 4000000 in
set_option maxRecDepth 100000 in
theorem bkX4_readUnit_114 {l : Launch} {dC : Nat → ClassId} {dI : Nat → Nat → Nat} {cB cI cJ cZ cS : ClassId} {a : Nat → Nat} {R : KS → Int32 → Option KS} {fr lo : Nat} (hR : ∀ {s : KS} {x1 : Int32} {s' : KS}, R s x1 = some s' → CV l yX4_readSum wsX4_readSum ({ frames := fr, cells := 0, slots := 0, locals := lo }) (dC, dI) (tysA cB cI cJ cZ cS) (wK cB cI cJ cZ cS a s) [.ref (a 28), .int x1] (fun u => u = wK cB cI cJ cZ cS a s')) (hfr : 2 ≤ fr) (hlo : 42 ≤ lo) {as : List Value} {s' : KS} (s : KS) (x1 : Int32) (hB : kX4_readUnit_114 R s x1 = some s') : BlkV l yX4_readUnit wsX4_readUnit ({ frames := fr + 1, cells := 0, slots := 0, locals := lo + 23 }) cX4_readUnit 4 none (dC, dI) (tysA cB cI cJ cZ cS) as 114 (wK cB cI cJ cZ cS a s) [(0, .ref (a 28)), (1, .int x1)] [] (fun u => u = (wK cB cI cJ cZ cS a s')) := by
  intro p e s0 m below meth c A E H locs ls hP hD hS hl
  obtain ⟨C, hr, hlocks, hA, hK, hN⟩ := id E
  obtain ⟨hx, hb, hml, hown, hts⟩ := id C
  unfold kX4_readUnit_114 at hB
  refine lv_aload_n hx hb dX4_readUnit_114 rfl (lv_at hl 0 rfl) ?_
  refine lv_bipush (v := 40) hx hb dX4_readUnit_115 (by decide) ?_
  obtain ⟨q_, s1, hc, hB⟩ := bindI_inv hB
  refine q_goiF (va_runV (As := [.int 40]) (rest := []) C (ckX4_isAt hc _) (cwV 1 hts gX4_readUnit_X4_isAt rfl rfl rfl (by decide +kernel) ⟨by dsimp only; omega, by dsimp only; omega⟩) (q_preV hK hP (ci := 4) (q0 := 28) rfl rfl rfl (q_preF hN hK hP hD)) rfl rfl hl.1 rfl (lv_room (Nat.le_of_ble_eq_true rfl)) dX4_readUnit_117 ⟨Nat.le_of_ble_eq_true rfl, Nat.le_of_ble_eq_true rfl⟩) hD hS hA (fun r2 w1 H locs hw hP hD hS => ?_)
  obtain ⟨hq_, hw⟩ := hw; subst hw; subst hq_
  refine lv_if_eq (tgt := 145) hx hb dX4_readUnit_120 (by decide) (fun c3 => ?_) (fun c3 => ?_)
  · have hB := if_p hB c3
    refine lv_aload_n hx hb dX4_readUnit_145 rfl (lv_at hl 0 rfl) ?_
    refine lv_iconst (v := 1) hx hb dX4_readUnit_146 (by decide) ?_
    obtain ⟨s4, hc, hB⟩ := bindP_inv hB
    refine q_govF (va_runV (As := [.int 1]) (rest := []) C (ckX4_fail hc _) (cwV 1 hts gX4_readUnit_X4_fail rfl rfl rfl (by decide +kernel) ⟨by dsimp only; omega, by dsimp only; omega⟩) (q_preV hK hP (ci := 4) (q0 := 28) rfl rfl rfl (q_preF hN hK hP hD)) rfl rfl hl.1 rfl (lv_room (Nat.le_of_ble_eq_true rfl)) dX4_readUnit_147 ⟨Nat.le_of_ble_eq_true rfl, Nat.le_of_ble_eq_true rfl⟩) hD hS hA (fun w1 H locs hw hP hD hS => ?_)
    subst hw
    exact q_vret C hr hlocks hK hP hD hS (Nat.le_of_ble_eq_true rfl) (Nat.le_of_ble_eq_true rfl) dX4_readUnit_150 (by cases hB; rfl)
  · have hB := if_n hB c3
    refine lv_aload_n hx hb dX4_readUnit_123 rfl (lv_at hl 0 rfl) ?_
    refine lv_bipush (v := 40) hx hb dX4_readUnit_124 (by decide) ?_
    obtain ⟨s5, hc, hB⟩ := bindP_inv hB
    refine q_govF (va_runV (As := [.int 40]) (rest := []) C (ckX4_take hc _) (cwV 1 hts gX4_readUnit_X4_take rfl rfl rfl (by decide +kernel) ⟨by dsimp only; omega, by dsimp only; omega⟩) (q_preV hK hP (ci := 4) (q0 := 28) rfl rfl rfl (q_preF hN hK hP hD)) rfl rfl hl.1 rfl (lv_room (Nat.le_of_ble_eq_true rfl)) dX4_readUnit_126 ⟨Nat.le_of_ble_eq_true rfl, Nat.le_of_ble_eq_true rfl⟩) hD hS hA (fun w1 H locs hw hP hD hS => ?_)
    subst hw
    refine lv_aload_n hx hb dX4_readUnit_129 rfl (lv_at hl 0 rfl) ?_
    refine lv_iload_n hx hb dX4_readUnit_130 rfl (lv_at hl 1 rfl) ?_
    refine lv_iconst (v := 1) hx hb dX4_readUnit_131 (by decide) ?_
    refine lv_iadd hx hb dX4_readUnit_132 ?_
    obtain ⟨s6, hc, hB⟩ := bindP_inv hB
    refine q_govF (va_runV (As := [.int (x1 + 1)]) (rest := []) C (hR hc _) (cwV 1 hts gX4_readUnit_X4_readSum rfl rfl rfl (by decide +kernel) ⟨by dsimp only; omega, by dsimp only; omega⟩) (q_preV hK hP (ci := 4) (q0 := 28) rfl rfl rfl (q_preF hN hK hP hD)) rfl rfl hl.1 rfl (lv_room (Nat.le_of_ble_eq_true rfl)) dX4_readUnit_133 ⟨Nat.le_of_ble_eq_true rfl, Nat.le_of_ble_eq_true rfl⟩) hD hS hA (fun w1 H locs hw hP hD hS => ?_)
    subst hw
    refine lv_aload_n hx hb dX4_readUnit_136 rfl (lv_at hl 0 rfl) ?_
    refine lv_bipush (v := 41) hx hb dX4_readUnit_137 (by decide) ?_
    obtain ⟨s7, hc, hB⟩ := bindP_inv hB
    refine q_govF (va_runV (As := [.int 41]) (rest := []) C (ckX4_take hc _) (cwV 1 hts gX4_readUnit_X4_take rfl rfl rfl (by decide +kernel) ⟨by dsimp only; omega, by dsimp only; omega⟩) (q_preV hK hP (ci := 4) (q0 := 28) rfl rfl rfl (q_preF hN hK hP hD)) rfl rfl hl.1 rfl (lv_room (Nat.le_of_ble_eq_true rfl)) dX4_readUnit_139 ⟨Nat.le_of_ble_eq_true rfl, Nat.le_of_ble_eq_true rfl⟩) hD hS hA (fun w1 H locs hw hP hD hS => ?_)
    subst hw
    refine lv_goto (tgt := 150) hx hb dX4_readUnit_142 (by decide) ?_
    exact q_vret C hr hlocks hK hP hD hS (Nat.le_of_ble_eq_true rfl) (Nat.le_of_ble_eq_true rfl) dX4_readUnit_150 (by cases hB; rfl)
set_option maxHeartbeats 4000000 in
set_option maxRecDepth 100000 in
theorem bkX4_readUnit_91 {l : Launch} {dC : Nat → ClassId} {dI : Nat → Nat → Nat} {cB cI cJ cZ cS : ClassId} {a : Nat → Nat} {R : KS → Int32 → Option KS} {fr lo : Nat} (hR : ∀ {s : KS} {x1 : Int32} {s' : KS}, R s x1 = some s' → CV l yX4_readSum wsX4_readSum ({ frames := fr, cells := 0, slots := 0, locals := lo }) (dC, dI) (tysA cB cI cJ cZ cS) (wK cB cI cJ cZ cS a s) [.ref (a 28), .int x1] (fun u => u = wK cB cI cJ cZ cS a s')) (hfr : 2 ≤ fr) (hlo : 42 ≤ lo) {as : List Value} {s' : KS} (s : KS) (x1 : Int32) (hB : kX4_readUnit_91 R s x1 = some s') : BlkV l yX4_readUnit wsX4_readUnit ({ frames := fr + 1, cells := 0, slots := 0, locals := lo + 23 }) cX4_readUnit 4 none (dC, dI) (tysA cB cI cJ cZ cS) as 91 (wK cB cI cJ cZ cS a s) [(0, .ref (a 28)), (1, .int x1)] [] (fun u => u = (wK cB cI cJ cZ cS a s')) := by
  intro p e s0 m below meth c A E H locs ls hP hD hS hl
  obtain ⟨C, hr, hlocks, hA, hK, hN⟩ := id E
  obtain ⟨hx, hb, hml, hown, hts⟩ := id C
  unfold kX4_readUnit_91 at hB
  refine lv_aload_n hx hb dX4_readUnit_91 rfl (lv_at hl 0 rfl) ?_
  refine lv_bipush (v := 40) hx hb dX4_readUnit_92 (by decide) ?_
  obtain ⟨q_, s1, hc, hB⟩ := bindI_inv hB
  refine q_goiF (va_runV (As := [.int 40]) (rest := []) C (ckX4_isAt hc _) (cwV 1 hts gX4_readUnit_X4_isAt rfl rfl rfl (by decide +kernel) ⟨by dsimp only; omega, by dsimp only; omega⟩) (q_preV hK hP (ci := 4) (q0 := 28) rfl rfl rfl (q_preF hN hK hP hD)) rfl rfl hl.1 rfl (lv_room (Nat.le_of_ble_eq_true rfl)) dX4_readUnit_94 ⟨Nat.le_of_ble_eq_true rfl, Nat.le_of_ble_eq_true rfl⟩) hD hS hA (fun r2 w1 H locs hw hP hD hS => ?_)
  obtain ⟨hq_, hw⟩ := hw; subst hw; subst hq_
  refine lv_if_eq (tgt := 114) hx hb dX4_readUnit_97 (by decide) (fun c3 => ?_) (fun c3 => ?_)
  · have hB := if_p hB c3
    exact bkX4_readUnit_114 hR hfr hlo _ _ hB p e s0 m below meth c A E H locs ls hP hD hS (lv_sub hl [0, 1] rfl)
  · have hB := if_n hB c3
    refine lv_iload_n hx hb dX4_readUnit_100 rfl (lv_at hl 1 rfl) ?_
    refine lv_bipush (v := 6) hx hb dX4_readUnit_101 (by decide) ?_
    refine lv_icmp_lt (tgt := 114) hx hb dX4_readUnit_103 (by decide) (fun c4 => ?_) (fun c4 => ?_)
    · have hB := if_p hB c4
      exact bkX4_readUnit_114 hR hfr hlo _ _ hB p e s0 m below meth c A E H locs ls hP hD hS (lv_sub hl [0, 1] rfl)
    · have hB := if_n hB c4
      refine lv_aload_n hx hb dX4_readUnit_106 rfl (lv_at hl 0 rfl) ?_
      refine lv_iconst (v := 2) hx hb dX4_readUnit_107 (by decide) ?_
      obtain ⟨s5, hc, hB⟩ := bindP_inv hB
      refine q_govF (va_runV (As := [.int 2]) (rest := []) C (ckX4_fail hc _) (cwV 1 hts gX4_readUnit_X4_fail rfl rfl rfl (by decide +kernel) ⟨by dsimp only; omega, by dsimp only; omega⟩) (q_preV hK hP (ci := 4) (q0 := 28) rfl rfl rfl (q_preF hN hK hP hD)) rfl rfl hl.1 rfl (lv_room (Nat.le_of_ble_eq_true rfl)) dX4_readUnit_108 ⟨Nat.le_of_ble_eq_true rfl, Nat.le_of_ble_eq_true rfl⟩) hD hS hA (fun w1 H locs hw hP hD hS => ?_)
      subst hw
      refine lv_goto (tgt := 150) hx hb dX4_readUnit_111 (by decide) ?_
      exact q_vret C hr hlocks hK hP hD hS (Nat.le_of_ble_eq_true rfl) (Nat.le_of_ble_eq_true rfl) dX4_readUnit_150 (by cases hB; rfl)
set_option maxHeartbeats 4000000 in
set_option maxRecDepth 100000 in
theorem bkX4_readUnit {l : Launch} {dC : Nat → ClassId} {dI : Nat → Nat → Nat} {cB cI cJ cZ cS : ClassId} {a : Nat → Nat} {R : KS → Int32 → Option KS} {fr lo : Nat} (hR : ∀ {s : KS} {x1 : Int32} {s' : KS}, R s x1 = some s' → CV l yX4_readSum wsX4_readSum ({ frames := fr, cells := 0, slots := 0, locals := lo }) (dC, dI) (tysA cB cI cJ cZ cS) (wK cB cI cJ cZ cS a s) [.ref (a 28), .int x1] (fun u => u = wK cB cI cJ cZ cS a s')) (hfr : 2 ≤ fr) (hlo : 42 ≤ lo) {as : List Value} {s' : KS} (s : KS) (x1 : Int32) (hB : kX4_readUnit R s x1 = some s') : BlkV l yX4_readUnit wsX4_readUnit ({ frames := fr + 1, cells := 0, slots := 0, locals := lo + 23 }) cX4_readUnit 4 none (dC, dI) (tysA cB cI cJ cZ cS) as 0 (wK cB cI cJ cZ cS a s) [(0, .ref (a 28)), (1, .int x1)] [] (fun u => u = (wK cB cI cJ cZ cS a s')) := by
  intro p e s0 m below meth c A E H locs ls hP hD hS hl
  obtain ⟨C, hr, hlocks, hA, hK, hN⟩ := id E
  obtain ⟨hx, hb, hml, hown, hts⟩ := id C
  unfold kX4_readUnit at hB
  refine lv_aload_n hx hb dX4_readUnit_0 rfl (lv_at hl 0 rfl) ?_
  refine q_get (v := .ref (a 30)) C inX4_readUnit_X4 hK hP 28 rfl rfl 0 (by decide) rfl LX4_readUnit_31 rfl dX4_readUnit_1 ?_
  refine q_getN (v := .ref (a 32)) C hN inX4_readUnit_X9 hK hP 30 rfl rfl 2 (by decide) rfl nwF_X4_63 rfl dX4_readUnit_4 ?_
  refine lv_aload_n hx hb dX4_readUnit_7 rfl (lv_at hl 0 rfl) ?_
  refine q_get (v := .int (s.v 15)) C inX4_readUnit_X4 hK hP 28 rfl rfl 3 (by decide) rfl LX4_readUnit_38 rfl dX4_readUnit_8 ?_
  obtain ⟨g1, hB⟩ := guard_inv hB
  refine q_iald (x := ((s.f 32) (Int32.toNatClampNeg (s.v 15)))) C hK hP 32 1 rfl rfl (vpb_in g1) dX4_readUnit_11 rfl ?_
  refine lv_istore_n (lv' := [(2, .int ((s.f 32) (Int32.toNatClampNeg (s.v 15)))), (0, .ref (a 28)), (1, .int x1)]) hx hb dX4_readUnit_12 rfl hl (by decide) rfl (fun ls hl => ?_)
  refine lv_iload_n hx hb dX4_readUnit_13 rfl (lv_at hl 0 rfl) ?_
  refine lv_sipush (v := 266) hx hb dX4_readUnit_14 (by decide) ?_
  refine lv_isub hx hb dX4_readUnit_17 ?_
  refine lv_istore_n (lv' := [(3, .int (((s.f 32) (Int32.toNatClampNeg (s.v 15))) - 266)), (2, .int ((s.f 32) (Int32.toNatClampNeg (s.v 15)))), (0, .ref (a 28)), (1, .int x1)]) hx hb dX4_readUnit_18 rfl hl (by decide) rfl (fun ls hl => ?_)
  refine lv_aload_n hx hb dX4_readUnit_19 rfl (lv_at hl 2 rfl) ?_
  refine lv_sipush (v := 301) hx hb dX4_readUnit_20 (by decide) ?_
  obtain ⟨q_, s2, hc, hB⟩ := bindI_inv hB
  refine q_goiF (va_runV (As := [.int 301]) (rest := []) C (ckX4_isAt hc _) (cwV 1 hts gX4_readUnit_X4_isAt rfl rfl rfl (by decide +kernel) ⟨by dsimp only; omega, by dsimp only; omega⟩) (q_preV hK hP (ci := 4) (q0 := 28) rfl rfl rfl (q_preF hN hK hP hD)) rfl rfl hl.1 rfl (lv_room (Nat.le_of_ble_eq_true rfl)) dX4_readUnit_23 ⟨Nat.le_of_ble_eq_true rfl, Nat.le_of_ble_eq_true rfl⟩) hD hS hA (fun r3 w1 H locs hw hP hD hS => ?_)
  obtain ⟨hq_, hw⟩ := hw; subst hw; subst hq_
  refine lv_if_eq (tgt := 62) hx hb dX4_readUnit_26 (by decide) (fun c4 => ?_) (fun c4 => ?_)
  · have hB := if_p hB c4
    refine lv_iload_n hx hb dX4_readUnit_62 rfl (lv_at hl 0 rfl) ?_
    refine lv_if_lt (tgt := 91) hx hb dX4_readUnit_63 (by decide) (fun c5 => ?_) (fun c5 => ?_)
    · have hB := if_p hB c5
      exact bkX4_readUnit_91 hR hfr hlo _ _ hB p e s0 m below meth c A E H locs ls hP hD hS (lv_sub hl [2, 3] rfl)
    · have hB := if_n hB c5
      refine lv_iload_n hx hb dX4_readUnit_66 rfl (lv_at hl 0 rfl) ?_
      refine lv_bipush (v := 9) hx hb dX4_readUnit_67 (by decide) ?_
      refine lv_icmp_ge (tgt := 91) hx hb dX4_readUnit_69 (by decide) (fun c6 => ?_) (fun c6 => ?_)
      · have hB := if_p hB c6
        exact bkX4_readUnit_91 hR hfr hlo _ _ hB p e s0 m below meth c A E H locs ls hP hD hS (lv_sub hl [2, 3] rfl)
      · have hB := if_n hB c6
        refine lv_aload_n hx hb dX4_readUnit_72 rfl (lv_at hl 2 rfl) ?_
        refine q_get (v := .ref (a 15)) C inX4_readUnit_X4 hK hP 28 rfl rfl 1 (by decide) rfl LX4_readUnit_12 rfl dX4_readUnit_73 ?_
        refine q_getN (v := .ref (a 21)) C hN inX4_readUnit_X5 hK hP 15 rfl rfl 5 (by decide) rfl nwF_X4_119 rfl dX4_readUnit_76 ?_
        refine lv_iload_n hx hb dX4_readUnit_79 rfl (lv_at hl 0 rfl) ?_
        obtain ⟨s7, hc, hB⟩ := bindP_inv hB
        refine q_govF (va_runVN (As := [.int (((s.f 32) (Int32.toNatClampNeg (s.v 15))) - 266)]) (rest := []) C (ckX1_putVar hc _) ⟨va_cnB 1 hts gX4_readUnit_X1_putVar_n149 rfl rfl rfl (hN _ nwM_X4_149 rfl) (hts _ LX4_readUnit_I_X1) (by decide +kernel) ⟨by dsimp only; omega, by dsimp only; omega⟩, hts _ LX4_readUnit_N_X1_putVar, hts _ LX4_readUnit_E_X1_putVar⟩ (q_preV hK hP (ci := 1) (q0 := 21) rfl rfl rfl (q_preF hN hK hP hD)) rfl rfl hl.1 rfl (lv_room (Nat.le_of_ble_eq_true rfl)) dX4_readUnit_80 ⟨Nat.le_of_ble_eq_true rfl, Nat.le_of_ble_eq_true rfl⟩) hD hS hA (fun w1 H locs hw hP hD hS => ?_)
        subst hw
        refine lv_aload_n hx hb dX4_readUnit_83 rfl (lv_at hl 2 rfl) ?_
        refine lv_iload_n hx hb dX4_readUnit_84 rfl (lv_at hl 1 rfl) ?_
        obtain ⟨s8, hc, hB⟩ := bindP_inv hB
        refine q_govF (va_runV (As := [.int ((s.f 32) (Int32.toNatClampNeg (s.v 15)))]) (rest := []) C (ckX4_take hc _) (cwV 1 hts gX4_readUnit_X4_take rfl rfl rfl (by decide +kernel) ⟨by dsimp only; omega, by dsimp only; omega⟩) (q_preV hK hP (ci := 4) (q0 := 28) rfl rfl rfl (q_preF hN hK hP hD)) rfl rfl hl.1 rfl (lv_room (Nat.le_of_ble_eq_true rfl)) dX4_readUnit_85 ⟨Nat.le_of_ble_eq_true rfl, Nat.le_of_ble_eq_true rfl⟩) hD hS hA (fun w1 H locs hw hP hD hS => ?_)
        subst hw
        refine lv_goto (tgt := 150) hx hb dX4_readUnit_88 (by decide) ?_
        exact q_vret C hr hlocks hK hP hD hS (Nat.le_of_ble_eq_true rfl) (Nat.le_of_ble_eq_true rfl) dX4_readUnit_150 (by cases hB; rfl)
  · have hB := if_n hB c4
    refine lv_aload_n hx hb dX4_readUnit_29 rfl (lv_at hl 2 rfl) ?_
    refine q_get (v := .ref (a 15)) C inX4_readUnit_X4 hK hP 28 rfl rfl 1 (by decide) rfl LX4_readUnit_12 rfl dX4_readUnit_30 ?_
    refine q_getN (v := .ref (a 21)) C hN inX4_readUnit_X5 hK hP 15 rfl rfl 5 (by decide) rfl nwF_X4_119 rfl dX4_readUnit_33 ?_
    refine lv_aload_n hx hb dX4_readUnit_36 rfl (lv_at hl 2 rfl) ?_
    refine q_get (v := .ref (a 30)) C inX4_readUnit_X4 hK hP 28 rfl rfl 0 (by decide) rfl LX4_readUnit_31 rfl dX4_readUnit_37 ?_
    refine q_getN (v := .ref (a 34)) C hN inX4_readUnit_X9 hK hP 30 rfl rfl 4 (by decide) rfl nwF_X4_74 rfl dX4_readUnit_40 ?_
    refine lv_aload_n hx hb dX4_readUnit_43 rfl (lv_at hl 2 rfl) ?_
    refine q_get (v := .int (s2.v 15)) C inX4_readUnit_X4 hK hP 28 rfl rfl 3 (by decide) rfl LX4_readUnit_38 rfl dX4_readUnit_44 ?_
    obtain ⟨g9, hB⟩ := guard_inv hB
    refine q_lald (x := ((s2.g 34) (Int32.toNatClampNeg (s2.v 15)))) C hK hP 34 2 rfl rfl (vpb_in g9) dX4_readUnit_47 rfl ?_
    refine lv_l2i (v := (Int64.toInt32 ((s2.g 34) (Int32.toNatClampNeg (s2.v 15))))) hx hb dX4_readUnit_48 rfl ?_
    obtain ⟨s10, hc, hB⟩ := bindP_inv hB
    refine q_govF (va_runVN (As := [.int (Int64.toInt32 ((s2.g 34) (Int32.toNatClampNeg (s2.v 15))))]) (rest := []) C (ckX1_putNumber hc _) ⟨va_cnB 1 hts gX4_readUnit_X1_putNumber_n146 rfl rfl rfl (hN _ nwM_X4_146 rfl) (hts _ LX4_readUnit_I_X1) (by decide +kernel) ⟨by dsimp only; omega, by dsimp only; omega⟩, hts _ LX4_readUnit_N_X1_putNumber, hts _ LX4_readUnit_E_X1_putNumber⟩ (q_preV hK hP (ci := 1) (q0 := 21) rfl rfl rfl (q_preF hN hK hP hD)) rfl rfl hl.1 rfl (lv_room (Nat.le_of_ble_eq_true rfl)) dX4_readUnit_49 ⟨Nat.le_of_ble_eq_true rfl, Nat.le_of_ble_eq_true rfl⟩) hD hS hA (fun w1 H locs hw hP hD hS => ?_)
    subst hw
    refine lv_aload_n hx hb dX4_readUnit_52 rfl (lv_at hl 2 rfl) ?_
    refine lv_sipush (v := 301) hx hb dX4_readUnit_53 (by decide) ?_
    obtain ⟨s11, hc, hB⟩ := bindP_inv hB
    refine q_govF (va_runV (As := [.int 301]) (rest := []) C (ckX4_take hc _) (cwV 1 hts gX4_readUnit_X4_take rfl rfl rfl (by decide +kernel) ⟨by dsimp only; omega, by dsimp only; omega⟩) (q_preV hK hP (ci := 4) (q0 := 28) rfl rfl rfl (q_preF hN hK hP hD)) rfl rfl hl.1 rfl (lv_room (Nat.le_of_ble_eq_true rfl)) dX4_readUnit_56 ⟨Nat.le_of_ble_eq_true rfl, Nat.le_of_ble_eq_true rfl⟩) hD hS hA (fun w1 H locs hw hP hD hS => ?_)
    subst hw
    refine lv_goto (tgt := 150) hx hb dX4_readUnit_59 (by decide) ?_
    exact q_vret C hr hlocks hK hP hD hS (Nat.le_of_ble_eq_true rfl) (Nat.le_of_ble_eq_true rfl) dX4_readUnit_150 (by cases hB; rfl)
theorem ckX4_readUnit {l : Launch} {dC : Nat → ClassId} {dI : Nat → Nat → Nat} {cB cI cJ cZ cS : ClassId} {a : Nat → Nat} {R : KS → Int32 → Option KS} {fr lo : Nat} (hR : ∀ {s : KS} {x1 : Int32} {s' : KS}, R s x1 = some s' → CV l yX4_readSum wsX4_readSum ({ frames := fr, cells := 0, slots := 0, locals := lo }) (dC, dI) (tysA cB cI cJ cZ cS) (wK cB cI cJ cZ cS a s) [.ref (a 28), .int x1] (fun u => u = wK cB cI cJ cZ cS a s')) (hfr : 2 ≤ fr) (hlo : 42 ≤ lo) {s' : KS} {s : KS} {x1 : Int32} (hB : kX4_readUnit R s x1 = some s') : CV l yX4_readUnit wsX4_readUnit ({ frames := fr + 1, cells := 0, slots := 0, locals := lo + 23 }) (dC, dI) (tysA cB cI cJ cZ cS) (wK cB cI cJ cZ cS a s) [.ref (a 28), .int x1] (fun u => u = (wK cB cI cJ cZ cS a s')) :=
  CV_of (cc := cX4_readUnit) (maxL := 4) (ret := none) (by decide) rfl (Nat.le_of_ble_eq_true rfl) (bkX4_readUnit hR hfr hlo _ _ hB)
