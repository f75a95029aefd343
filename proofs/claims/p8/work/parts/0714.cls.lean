theorem ggX0_needOf_X0_clearVars : GoodIn wsX0_needOf wsX0_clearVars := gi_sub (fun w h => List.mem_cons_of_mem _ (List.mem_append_left _ (List.mem_append_left _ (List.mem_append_left _ (List.mem_append_left _ (List.mem_append_right _ (List.mem_append_left _ h))))))) gd_wsX0_clearVars
set_option maxRecDepth 20000 in
theorem gX0_needOf_X0_clearVars : GoodIn wsX0_needOf (wsV RX0 81 RX0 yX0_clearVars wsX0_clearVars) := goodIn_app (goodIn_r _ [3, 4, 5, 6] (by decide +kernel) (by decide +kernel)) ggX0_needOf_X0_clearVars
theorem ggX0_needOf_X0_setParty : GoodIn wsX0_needOf wsX0_setParty := gi_sub (fun w h => List.mem_cons_of_mem _ (List.mem_append_left _ (List.mem_append_left _ (List.mem_append_left _ (List.mem_append_left _ (List.mem_append_right _ (List.mem_append_right _ (List.mem_append_left _ h)))))))) gd_wsX0_setParty
set_option maxRecDepth 20000 in
theorem gX0_needOf_X0_setParty : GoodIn wsX0_needOf (wsV RX0 85 RX0 yX0_setParty wsX0_setParty) := goodIn_app (goodIn_r _ [7, 8, 9, 6] (by decide +kernel) (by decide +kernel)) ggX0_needOf_X0_setParty
theorem ggX0_needOf_X0_setWave : GoodIn wsX0_needOf wsX0_setWave := gi_sub (fun w h => List.mem_cons_of_mem _ (List.mem_append_left _ (List.mem_append_left _ (List.mem_append_left _ (List.mem_append_left _ (List.mem_append_right _ (List.mem_append_right _ (List.mem_append_right _ (List.mem_append_left _ h))))))))) gd_wsX0_setWave
set_option maxRecDepth 20000 in
theorem gX0_needOf_X0_setWave : GoodIn wsX0_needOf (wsV RX0 89 RX0 yX0_setWave wsX0_setWave) := goodIn_app (goodIn_r _ [10, 11, 12, 6] (by decide +kernel) (by decide +kernel)) ggX0_needOf_X0_setWave
theorem ggX0_needOf_X5_oddsAt : GoodIn wsX0_needOf wsX5_oddsAt := gi_sub (fun w h => List.mem_cons_of_mem _ (List.mem_append_left _ (List.mem_append_left _ (List.mem_append_left _ (List.mem_append_left _ (List.mem_append_right _ (List.mem_append_right _ (List.mem_append_right _ (List.mem_append_right _ (List.mem_append_left _ h)))))))))) gd_wsX5_oddsAt
set_option maxRecDepth 20000 in
theorem gX0_needOf_X5_oddsAt_n92 : GoodIn wsX0_needOf (wsX5_oddsAt) := ggX0_needOf_X5_oddsAt
theorem ggX0_needOf_X1_valueOf : GoodIn wsX0_needOf wsX1_valueOf := gi_sub (fun w h => List.mem_cons_of_mem _ (List.mem_append_left _ (List.mem_append_left _ (List.mem_append_left _ (List.mem_append_left _ (List.mem_append_right _ (List.mem_append_right _ (List.mem_append_right _ (List.mem_append_right _ (List.mem_append_right _ (List.mem_append_left _ h))))))))))) gd_wsX1_valueOf
set_option maxRecDepth 20000 in
theorem gX0_needOf_X1_valueOf_n96 : GoodIn wsX0_needOf (wsX1_valueOf) := ggX0_needOf_X1_valueOf
theorem ggX0_needOf_X10_heldTo : GoodIn wsX0_needOf wsX10_heldTo := gi_sub (fun w h => List.mem_cons_of_mem _ (List.mem_append_left _ (List.mem_append_left _ (List.mem_append_left _ (List.mem_append_left _ (List.mem_append_right _ (List.mem_append_right _ (List.mem_append_right _ (List.mem_append_right _ (List.mem_append_right _ (List.mem_append_right _ h))))))))))) gd_wsX10_heldTo
set_option maxRecDepth 20000 in
theorem gX0_needOf_X10_heldTo_n99 : GoodIn wsX0_needOf (wsX10_heldTo) := ggX0_needOf_X10_heldTo
theorem dX0_needOf_0 : decode cX0_needOf 0 = .ok (.aload_n 0, 1) := dc1_42 (by decide +kernel)
theorem dX0_needOf_1 : decode cX0_needOf 1 = .ok (.aload_n 1, 1) := dc1_43 (by decide +kernel)
theorem dX0_needOf_2 : decode cX0_needOf 2 = .ok (.invokevirtual 81, 3) := dcw_182 (by decide +kernel)
theorem dX0_needOf_5 : decode cX0_needOf 5 = .ok (.aload_n 0, 1) := dc1_42 (by decide +kernel)
theorem dX0_needOf_6 : decode cX0_needOf 6 = .ok (.aload_n 1, 1) := dc1_43 (by decide +kernel)
theorem dX0_needOf_7 : decode cX0_needOf 7 = .ok (.iload_n 2, 1) := dc1_28 (by decide +kernel)
theorem dX0_needOf_8 : decode cX0_needOf 8 = .ok (.invokevirtual 85, 3) := dcw_182 (by decide +kernel)
theorem dX0_needOf_11 : decode cX0_needOf 11 = .ok (.aload_n 0, 1) := dc1_42 (by decide +kernel)
theorem dX0_needOf_12 : decode cX0_needOf 12 = .ok (.aload_n 1, 1) := dc1_43 (by decide +kernel)
theorem dX0_needOf_13 : decode cX0_needOf 13 = .ok (.iload_n 3, 1) := dc1_29 (by decide +kernel)
theorem dX0_needOf_14 : decode cX0_needOf 14 = .ok (.invokevirtual 89, 3) := dcw_182 (by decide +kernel)
theorem dX0_needOf_17 : decode cX0_needOf 17 = .ok (.aload_n 0, 1) := dc1_42 (by decide +kernel)
theorem dX0_needOf_18 : decode cX0_needOf 18 = .ok (.getfield 27, 3) := dcw_180 (by decide +kernel)
theorem dX0_needOf_21 : decode cX0_needOf 21 = .ok (.iconst 1, 1) := dc1_4 (by decide +kernel)
theorem dX0_needOf_22 : decode cX0_needOf 22 = .ok (.aload_n 0, 1) := dc1_42 (by decide +kernel)
theorem dX0_needOf_23 : decode cX0_needOf 23 = .ok (.getfield 9, 3) := dcw_180 (by decide +kernel)
theorem dX0_needOf_26 : decode cX0_needOf 26 = .ok (.iload_n 3, 1) := dc1_29 (by decide +kernel)
theorem dX0_needOf_27 : decode cX0_needOf 27 = .ok (.iload 4, 2) := dcu_21 (by decide +kernel)
theorem dX0_needOf_29 : decode cX0_needOf 29 = .ok (.invokevirtual 92, 3) := dcw_182 (by decide +kernel)
theorem dX0_needOf_32 : decode cX0_needOf 32 = .ok (.iastore, 1) := dc1_79 (by decide +kernel)
theorem dX0_needOf_33 : decode cX0_needOf 33 = .ok (.bipush 9, 2) := dcb_16 (n := 9) (by decide +kernel)
theorem dX0_needOf_35 : decode cX0_needOf 35 = .ok (.aload_n 0, 1) := dc1_42 (by decide +kernel)
theorem dX0_needOf_36 : decode cX0_needOf 36 = .ok (.getfield 9, 3) := dcw_180 (by decide +kernel)
theorem dX0_needOf_39 : decode cX0_needOf 39 = .ok (.getfield 15, 3) := dcw_180 (by decide +kernel)
theorem dX0_needOf_42 : decode cX0_needOf 42 = .ok (.iconst 0, 1) := dc1_3 (by decide +kernel)
theorem dX0_needOf_43 : decode cX0_needOf 43 = .ok (.invokevirtual 96, 3) := dcw_182 (by decide +kernel)
theorem dX0_needOf_46 : decode cX0_needOf 46 = .ok (.invokestatic 99, 3) := dcw_184 (by decide +kernel)
theorem dX0_needOf_49 : decode cX0_needOf 49 = .ok (.ireturn, 1) := dc1_172 (by decide +kernel)
theorem ggX0_isBearing_X5_oddsAt : GoodIn wsX0_isBearing wsX5_oddsAt := gi_sub (fun w h => List.mem_cons_of_mem _ (List.mem_append_left _ (List.mem_append_left _ (List.mem_append_left _ (List.mem_append_left _ (List.mem_append_right _ (List.mem_append_left _ h))))))) gd_wsX5_oddsAt
set_option maxRecDepth 20000 in
theorem gX0_isBearing_X5_oddsAt_n92 : GoodIn wsX0_isBearing (wsX5_oddsAt) := ggX0_isBearing_X5_oddsAt
theorem ggX0_isBearing_X0_needOf : GoodIn wsX0_isBearing wsX0_needOf := gi_sub (fun w h => List.mem_cons_of_mem _ (List.mem_append_left _ (List.mem_append_left _ (List.mem_append_left _ (List.mem_append_left _ (List.mem_append_right _ (List.mem_append_right _ h))))))) gd_wsX0_needOf
set_option maxRecDepth 20000 in
theorem gX0_isBearing_X0_needOf : GoodIn wsX0_isBearing (wsV RX0 102 RX0 yX0_needOf wsX0_needOf) := goodIn_app (goodIn_r _ [5, 6, 7, 8] (by decide +kernel) (by decide +kernel)) ggX0_isBearing_X0_needOf
theorem dX0_isBearing_0 : decode cX0_isBearing 0 = .ok (.aload_n 0, 1) := dc1_42 (by decide +kernel)
theorem dX0_isBearing_1 : decode cX0_isBearing 1 = .ok (.getfield 9, 3) := dcw_180 (by decide +kernel)
theorem dX0_isBearing_4 : decode cX0_isBearing 4 = .ok (.iload_n 3, 1) := dc1_29 (by decide +kernel)
theorem dX0_isBearing_5 : decode cX0_isBearing 5 = .ok (.iload 4, 2) := dcu_21 (by decide +kernel)
theorem dX0_isBearing_7 : decode cX0_isBearing 7 = .ok (.invokevirtual 92, 3) := dcw_182 (by decide +kernel)
theorem dX0_isBearing_10 : decode cX0_isBearing 10 = .ok (.aload_n 0, 1) := dc1_42 (by decide +kernel)
theorem dX0_isBearing_11 : decode cX0_isBearing 11 = .ok (.aload_n 1, 1) := dc1_43 (by decide +kernel)
theorem dX0_isBearing_12 : decode cX0_isBearing 12 = .ok (.iload_n 2, 1) := dc1_28 (by decide +kernel)
theorem dX0_isBearing_13 : decode cX0_isBearing 13 = .ok (.iload_n 3, 1) := dc1_29 (by decide +kernel)
theorem dX0_isBearing_14 : decode cX0_isBearing 14 = .ok (.iload 4, 2) := dcu_21 (by decide +kernel)
theorem dX0_isBearing_16 : decode cX0_isBearing 16 = .ok (.invokevirtual 102, 3) := dcw_182 (by decide +kernel)
theorem dX0_isBearing_19 : decode cX0_isBearing 19 = .ok (.if_icmp .lt 7, 3) := dcs_161 (n := 7) (by decide +kernel)
theorem dX0_isBearing_22 : decode cX0_isBearing 22 = .ok (.iconst 1, 1) := dc1_4 (by decide +kernel)
theorem dX0_isBearing_23 : decode cX0_isBearing 23 = .ok (.goto 4, 3) := dcs_167 (n := 4) (by decide +kernel)
theorem dX0_isBearing_26 : decode cX0_isBearing 26 = .ok (.iconst 0, 1) := dc1_3 (by decide +kernel)
theorem dX0_isBearing_27 : decode cX0_isBearing 27 = .ok (.ireturn, 1) := dc1_172 (by decide +kernel)
theorem ggX0_fareOf_X0_clearVars : GoodIn wsX0_fareOf wsX0_clearVars := gi_sub (fun w h => List.mem_cons_of_mem _ (List.mem_append_left _ (List.mem_append_left _ (List.mem_append_left _ (List.mem_append_left _ (List.mem_append_right _ (List.mem_append_left _ h))))))) gd_wsX0_clearVars
set_option maxRecDepth 20000 in
theorem gX0_fareOf_X0_clearVars : GoodIn wsX0_fareOf (wsV RX0 81 RX0 yX0_clearVars wsX0_clearVars) := goodIn_app (goodIn_r _ [2, 3, 4, 5] (by decide +kernel) (by decide +kernel)) ggX0_fareOf_X0_clearVars
theorem ggX0_fareOf_X0_setParty : GoodIn wsX0_fareOf wsX0_setParty := gi_sub (fun w h => List.mem_cons_of_mem _ (List.mem_append_left _ (List.mem_append_left _ (List.mem_append_left _ (List.mem_append_left _ (List.mem_append_right _ (List.mem_append_right _ (List.mem_append_left _ h)))))))) gd_wsX0_setParty
set_option maxRecDepth 20000 in
theorem gX0_fareOf_X0_setParty : GoodIn wsX0_fareOf (wsV RX0 85 RX0 yX0_setParty wsX0_setParty) := goodIn_app (goodIn_r _ [6, 7, 8, 5] (by decide +kernel) (by decide +kernel)) ggX0_fareOf_X0_setParty
theorem ggX0_fareOf_X1_valueOf : GoodIn wsX0_fareOf wsX1_valueOf := gi_sub (fun w h => List.mem_cons_of_mem _ (List.mem_append_left _ (List.mem_append_left _ (List.mem_append_left _ (List.mem_append_left _ (List.mem_append_right _ (List.mem_append_right _ (List.mem_append_right _ (List.mem_append_left _ h))))))))) gd_wsX1_valueOf
set_option maxRecDepth 20000 in
theorem gX0_fareOf_X1_valueOf_n96 : GoodIn wsX0_fareOf (wsX1_valueOf) := ggX0_fareOf_X1_valueOf
theorem ggX0_fareOf_X10_heldTo : GoodIn wsX0_fareOf wsX10_heldTo := gi_sub (fun w h => List.mem_cons_of_mem _ (List.mem_append_left _ (List.mem_append_left _ (List.mem_append_left _ (List.mem_append_left _ (List.mem_append_right _ (List.mem_append_right _ (List.mem_append_right _ (List.mem_append_right _ h))))))))) gd_wsX10_heldTo
set_option maxRecDepth 20000 in
theorem gX0_fareOf_X10_heldTo_n99 : GoodIn wsX0_fareOf (wsX10_heldTo) := ggX0_fareOf_X10_heldTo
theorem dX0_fareOf_0 : decode cX0_fareOf 0 = .ok (.aload_n 0, 1) := dc1_42 (by decide +kernel)
theorem dX0_fareOf_1 : decode cX0_fareOf 1 = .ok (.aload_n 1, 1) := dc1_43 (by decide +kernel)
theorem dX0_fareOf_2 : decode cX0_fareOf 2 = .ok (.invokevirtual 81, 3) := dcw_182 (by decide +kernel)
theorem dX0_fareOf_5 : decode cX0_fareOf 5 = .ok (.aload_n 0, 1) := dc1_42 (by decide +kernel)
theorem dX0_fareOf_6 : decode cX0_fareOf 6 = .ok (.aload_n 1, 1) := dc1_43 (by decide +kernel)
theorem dX0_fareOf_7 : decode cX0_fareOf 7 = .ok (.iload_n 2, 1) := dc1_28 (by decide +kernel)
theorem dX0_fareOf_8 : decode cX0_fareOf 8 = .ok (.invokevirtual 85, 3) := dcw_182 (by decide +kernel)
theorem dX0_fareOf_11 : decode cX0_fareOf 11 = .ok (.bipush 99, 2) := dcb_16 (n := 99) (by decide +kernel)
theorem dX0_fareOf_13 : decode cX0_fareOf 13 = .ok (.aload_n 0, 1) := dc1_42 (by decide +kernel)
theorem dX0_fareOf_14 : decode cX0_fareOf 14 = .ok (.getfield 9, 3) := dcw_180 (by decide +kernel)
theorem dX0_fareOf_17 : decode cX0_fareOf 17 = .ok (.getfield 15, 3) := dcw_180 (by decide +kernel)
theorem dX0_fareOf_20 : decode cX0_fareOf 20 = .ok (.iconst 1, 1) := dc1_4 (by decide +kernel)
theorem dX0_fareOf_21 : decode cX0_fareOf 21 = .ok (.invokevirtual 96, 3) := dcw_182 (by decide +kernel)
theorem dX0_fareOf_24 : decode cX0_fareOf 24 = .ok (.invokestatic 99, 3) := dcw_184 (by decide +kernel)
theorem dX0_fareOf_27 : decode cX0_fareOf 27 = .ok (.ireturn, 1) := dc1_172 (by decide +kernel)
theorem ggX0_isDaring_X0_clearVars : GoodIn wsX0_isDaring wsX0_clearVars := gi_sub (fun w h => List.mem_cons_of_mem _ (List.mem_append_left _ (List.mem_append_left _ (List.mem_append_left _ (List.mem_append_left _ (List.mem_append_right _ (List.mem_append_left _ h))))))) gd_wsX0_clearVars
set_option maxRecDepth 20000 in
theorem gX0_isDaring_X0_clearVars : GoodIn wsX0_isDaring (wsV RX0 81 RX0 yX0_clearVars wsX0_clearVars) := goodIn_app (goodIn_r _ [2, 3, 4, 5] (by decide +kernel) (by decide +kernel)) ggX0_isDaring_X0_clearVars
theorem ggX0_isDaring_X0_setParty : GoodIn wsX0_isDaring wsX0_setParty := gi_sub (fun w h => List.mem_cons_of_mem _ (List.mem_append_left _ (List.mem_append_left _ (List.mem_append_left _ (List.mem_append_left _ (List.mem_append_right _ (List.mem_append_right _ (List.mem_append_left _ h)))))))) gd_wsX0_setParty
set_option maxRecDepth 20000 in
theorem gX0_isDaring_X0_setParty : GoodIn wsX0_isDaring (wsV RX0 85 RX0 yX0_setParty wsX0_setParty) := goodIn_app (goodIn_r _ [6, 7, 8, 5] (by decide +kernel) (by decide +kernel)) ggX0_isDaring_X0_setParty
theorem ggX0_isDaring_X1_valueOf : GoodIn wsX0_isDaring wsX1_valueOf := gi_sub (fun w h => List.mem_cons_of_mem _ (List.mem_append_left _ (List.mem_append_left _ (List.mem_append_left _ (List.mem_append_left _ (List.mem_append_right _ (List.mem_append_right _ (List.mem_append_right _ h)))))))) gd_wsX1_valueOf
set_option maxRecDepth 20000 in
theorem gX0_isDaring_X1_valueOf_n96 : GoodIn wsX0_isDaring (wsX1_valueOf) := ggX0_isDaring_X1_valueOf
theorem dX0_isDaring_0 : decode cX0_isDaring 0 = .ok (.aload_n 0, 1) := dc1_42 (by decide +kernel)
theorem dX0_isDaring_1 : decode cX0_isDaring 1 = .ok (.aload_n 1, 1) := dc1_43 (by decide +kernel)
theorem dX0_isDaring_2 : decode cX0_isDaring 2 = .ok (.invokevirtual 81, 3) := dcw_182 (by decide +kernel)
theorem dX0_isDaring_5 : decode cX0_isDaring 5 = .ok (.aload_n 0, 1) := dc1_42 (by decide +kernel)
theorem dX0_isDaring_6 : decode cX0_isDaring 6 = .ok (.aload_n 1, 1) := dc1_43 (by decide +kernel)
theorem dX0_isDaring_7 : decode cX0_isDaring 7 = .ok (.iload_n 2, 1) := dc1_28 (by decide +kernel)
theorem dX0_isDaring_8 : decode cX0_isDaring 8 = .ok (.invokevirtual 85, 3) := dcw_182 (by decide +kernel)
theorem dX0_isDaring_11 : decode cX0_isDaring 11 = .ok (.aload_n 0, 1) := dc1_42 (by decide +kernel)
theorem dX0_isDaring_12 : decode cX0_isDaring 12 = .ok (.getfield 9, 3) := dcw_180 (by decide +kernel)
theorem dX0_isDaring_15 : decode cX0_isDaring 15 = .ok (.getfield 15, 3) := dcw_180 (by decide +kernel)
theorem dX0_isDaring_18 : decode cX0_isDaring 18 = .ok (.iconst 2, 1) := dc1_5 (by decide +kernel)
theorem dX0_isDaring_19 : decode cX0_isDaring 19 = .ok (.invokevirtual 96, 3) := dcw_182 (by decide +kernel)
theorem dX0_isDaring_22 : decode cX0_isDaring 22 = .ok (.ifCond .le 7, 3) := dcs_158 (n := 7) (by decide +kernel)
theorem dX0_isDaring_25 : decode cX0_isDaring 25 = .ok (.iconst 1, 1) := dc1_4 (by decide +kernel)
theorem dX0_isDaring_26 : decode cX0_isDaring 26 = .ok (.goto 4, 3) := dcs_167 (n := 4) (by decide +kernel)
theorem dX0_isDaring_29 : decode cX0_isDaring 29 = .ok (.iconst 0, 1) := dc1_3 (by decide +kernel)
theorem dX0_isDaring_30 : decode cX0_isDaring 30 = .ok (.ireturn, 1) := dc1_172 (by decide +kernel)
theorem ggX0_shiftsOf_X0_clearVars : GoodIn wsX0_shiftsOf wsX0_clearVars := gi_sub (fun w h => List.mem_cons_of_mem _ (List.mem_append_left _ (List.mem_append_left _ (List.mem_append_left _ (List.mem_append_left _ (List.mem_append_right _ (List.mem_append_left _ h))))))) gd_wsX0_clearVars
set_option maxRecDepth 20000 in
theorem gX0_shiftsOf_X0_clearVars : GoodIn wsX0_shiftsOf (wsV RX0 81 RX0 yX0_clearVars wsX0_clearVars) := goodIn_app (goodIn_r _ [2, 3, 4, 5] (by decide +kernel) (by decide +kernel)) ggX0_shiftsOf_X0_clearVars
theorem ggX0_shiftsOf_X0_setWave : GoodIn wsX0_shiftsOf wsX0_setWave := gi_sub (fun w h => List.mem_cons_of_mem _ (List.mem_append_left _ (List.mem_append_left _ (List.mem_append_left _ (List.mem_append_left _ (List.mem_append_right _ (List.mem_append_right _ (List.mem_append_left _ h)))))))) gd_wsX0_setWave
set_option maxRecDepth 20000 in
theorem gX0_shiftsOf_X0_setWave : GoodIn wsX0_shiftsOf (wsV RX0 89 RX0 yX0_setWave wsX0_setWave) := goodIn_app (goodIn_r _ [6, 7, 8, 5] (by decide +kernel) (by decide +kernel)) ggX0_shiftsOf_X0_setWave
theorem ggX0_shiftsOf_X1_valueOf : GoodIn wsX0_shiftsOf wsX1_valueOf := gi_sub (fun w h => List.mem_cons_of_mem _ (List.mem_append_left _ (List.mem_append_left _ (List.mem_append_left _ (List.mem_append_left _ (List.mem_append_right _ (List.mem_append_right _ (List.mem_append_right _ (List.mem_append_left _ h))))))))) gd_wsX1_valueOf
set_option maxRecDepth 20000 in
theorem gX0_shiftsOf_X1_valueOf_n96 : GoodIn wsX0_shiftsOf (wsX1_valueOf) := ggX0_shiftsOf_X1_valueOf
theorem ggX0_shiftsOf_X10_heldTo : GoodIn wsX0_shiftsOf wsX10_heldTo := gi_sub (fun w h => List.mem_cons_of_mem _ (List.mem_append_left _ (List.mem_append_left _ (List.mem_append_left _ (List.mem_append_left _ (List.mem_append_right _ (List.mem_append_right _ (List.mem_append_right _ (List.mem_append_right _ h))))))))) gd_wsX10_heldTo
set_option maxRecDepth 20000 in
theorem gX0_shiftsOf_X10_heldTo_n99 : GoodIn wsX0_shiftsOf (wsX10_heldTo) := ggX0_shiftsOf_X10_heldTo
theorem dX0_shiftsOf_0 : decode cX0_shiftsOf 0 = .ok (.aload_n 0, 1) := dc1_42 (by decide +kernel)
theorem dX0_shiftsOf_1 : decode cX0_shiftsOf 1 = .ok (.aload_n 1, 1) := dc1_43 (by decide +kernel)
theorem dX0_shiftsOf_2 : decode cX0_shiftsOf 2 = .ok (.invokevirtual 81, 3) := dcw_182 (by decide +kernel)
theorem dX0_shiftsOf_5 : decode cX0_shiftsOf 5 = .ok (.aload_n 0, 1) := dc1_42 (by decide +kernel)
theorem dX0_shiftsOf_6 : decode cX0_shiftsOf 6 = .ok (.aload_n 1, 1) := dc1_43 (by decide +kernel)
theorem dX0_shiftsOf_7 : decode cX0_shiftsOf 7 = .ok (.iload_n 2, 1) := dc1_28 (by decide +kernel)
theorem dX0_shiftsOf_8 : decode cX0_shiftsOf 8 = .ok (.invokevirtual 89, 3) := dcw_182 (by decide +kernel)
theorem dX0_shiftsOf_11 : decode cX0_shiftsOf 11 = .ok (.bipush 100, 2) := dcb_16 (n := 100) (by decide +kernel)
theorem dX0_shiftsOf_13 : decode cX0_shiftsOf 13 = .ok (.aload_n 0, 1) := dc1_42 (by decide +kernel)
theorem dX0_shiftsOf_14 : decode cX0_shiftsOf 14 = .ok (.getfield 9, 3) := dcw_180 (by decide +kernel)
theorem dX0_shiftsOf_17 : decode cX0_shiftsOf 17 = .ok (.getfield 15, 3) := dcw_180 (by decide +kernel)
theorem dX0_shiftsOf_20 : decode cX0_shiftsOf 20 = .ok (.iconst 3, 1) := dc1_6 (by decide +kernel)
theorem dX0_shiftsOf_21 : decode cX0_shiftsOf 21 = .ok (.invokevirtual 96, 3) := dcw_182 (by decide +kernel)
theorem dX0_shiftsOf_24 : decode cX0_shiftsOf 24 = .ok (.invokestatic 99, 3) := dcw_184 (by decide +kernel)
theorem dX0_shiftsOf_27 : decode cX0_shiftsOf 27 = .ok (.ireturn, 1) := dc1_172 (by decide +kernel)
theorem ggX0_sendBy_X0_fareOf : GoodIn wsX0_sendBy wsX0_fareOf := gi_sub (fun w h => List.mem_cons_of_mem _ (List.mem_append_left _ (List.mem_append_left _ (List.mem_append_left _ (List.mem_append_left _ (List.mem_append_right _ (List.mem_append_left _ h))))))) gd_wsX0_fareOf
set_option maxRecDepth 20000 in
theorem gX0_sendBy_X0_fareOf : GoodIn wsX0_sendBy (wsV RX0 109 RX0 yX0_fareOf wsX0_fareOf) := goodIn_app (goodIn_r _ [2, 3, 4, 5] (by decide +kernel) (by decide +kernel)) ggX0_sendBy_X0_fareOf
theorem ggX0_sendBy_X10_thingIn : GoodIn wsX0_sendBy wsX10_thingIn := gi_sub (fun w h => List.mem_cons_of_mem _ (List.mem_append_left _ (List.mem_append_left _ (List.mem_append_left _ (List.mem_append_left _ (List.mem_append_right _ (List.mem_append_right _ (List.mem_append_left _ h)))))))) gd_wsX10_thingIn
set_option maxRecDepth 20000 in
theorem gX0_sendBy_X10_thingIn_n112 : GoodIn wsX0_sendBy (wsX10_thingIn) := ggX0_sendBy_X10_thingIn
theorem ggX0_sendBy_X0_isBearing : GoodIn wsX0_sendBy wsX0_isBearing := gi_sub (fun w h => List.mem_cons_of_mem _ (List.mem_append_left _ (List.mem_append_left _ (List.mem_append_left _ (List.mem_append_left _ (List.mem_append_right _ (List.mem_append_right _ (List.mem_append_right _ (List.mem_append_left _ h))))))))) gd_wsX0_isBearing
set_option maxRecDepth 20000 in
theorem gX0_sendBy_X0_isBearing : GoodIn wsX0_sendBy (wsV RX0 115 RX0 yX0_isBearing wsX0_isBearing) := goodIn_app (goodIn_r _ [8, 9, 10, 5] (by decide +kernel) (by decide +kernel)) ggX0_sendBy_X0_isBearing
theorem ggX0_sendBy_X0_thereNow : GoodIn wsX0_sendBy wsX0_thereNow := gi_sub (fun w h => List.mem_cons_of_mem _ (List.mem_append_left _ (List.mem_append_left _ (List.mem_append_left _ (List.mem_append_left _ (List.mem_append_right _ (List.mem_append_right _ (List.mem_append_right _ (List.mem_append_right _ h))))))))) gd_wsX0_thereNow
set_option maxRecDepth 20000 in
theorem gX0_sendBy_X0_thereNow : GoodIn wsX0_sendBy (wsV RX0 119 RX0 yX0_thereNow wsX0_thereNow) := goodIn_app (goodIn_r _ [11, 12, 13, 5] (by decide +kernel) (by decide +kernel)) ggX0_sendBy_X0_thereNow
theorem dX0_sendBy_0 : decode cX0_sendBy 0 = .ok (.aload_n 1, 1) := dc1_43 (by decide +kernel)
theorem dX0_sendBy_1 : decode cX0_sendBy 1 = .ok (.dup, 1) := dc1_89 (by decide +kernel)
theorem dX0_sendBy_2 : decode cX0_sendBy 2 = .ok (.getfield 106, 3) := dcw_180 (by decide +kernel)
theorem dX0_sendBy_5 : decode cX0_sendBy 5 = .ok (.aload_n 0, 1) := dc1_42 (by decide +kernel)
theorem dX0_sendBy_6 : decode cX0_sendBy 6 = .ok (.aload_n 1, 1) := dc1_43 (by decide +kernel)
theorem dX0_sendBy_7 : decode cX0_sendBy 7 = .ok (.iload_n 2, 1) := dc1_28 (by decide +kernel)
theorem dX0_sendBy_8 : decode cX0_sendBy 8 = .ok (.invokevirtual 109, 3) := dcw_182 (by decide +kernel)
theorem dX0_sendBy_11 : decode cX0_sendBy 11 = .ok (.iadd, 1) := dc1_96 (by decide +kernel)
theorem dX0_sendBy_12 : decode cX0_sendBy 12 = .ok (.putfield 106, 3) := dcw_181 (by decide +kernel)
theorem dX0_sendBy_15 : decode cX0_sendBy 15 = .ok (.iconst 2, 1) := dc1_5 (by decide +kernel)
theorem dX0_sendBy_16 : decode cX0_sendBy 16 = .ok (.istore 4, 2) := dcu_54 (by decide +kernel)
theorem dX0_sendBy_18 : decode cX0_sendBy 18 = .ok (.iconst 0, 1) := dc1_3 (by decide +kernel)
theorem dX0_sendBy_19 : decode cX0_sendBy 19 = .ok (.istore 5, 2) := dcu_54 (by decide +kernel)
theorem dX0_sendBy_21 : decode cX0_sendBy 21 = .ok (.iconst 0, 1) := dc1_3 (by decide +kernel)
theorem dX0_sendBy_22 : decode cX0_sendBy 22 = .ok (.istore 6, 2) := dcu_54 (by decide +kernel)
theorem dX0_sendBy_24 : decode cX0_sendBy 24 = .ok (.iload 6, 2) := dcu_21 (by decide +kernel)
theorem dX0_sendBy_26 : decode cX0_sendBy 26 = .ok (.aload_n 0, 1) := dc1_42 (by decide +kernel)
theorem dX0_sendBy_27 : decode cX0_sendBy 27 = .ok (.getfield 9, 3) := dcw_180 (by decide +kernel)
theorem dX0_sendBy_30 : decode cX0_sendBy 30 = .ok (.getfield 50, 3) := dcw_180 (by decide +kernel)
theorem dX0_sendBy_33 : decode cX0_sendBy 33 = .ok (.if_icmp .ge 86, 3) := dcs_162 (n := 86) (by decide +kernel)
theorem dX0_sendBy_36 : decode cX0_sendBy 36 = .ok (.iload 4, 2) := dcu_21 (by decide +kernel)
theorem dX0_sendBy_38 : decode cX0_sendBy 38 = .ok (.iconst 2, 1) := dc1_5 (by decide +kernel)
theorem dX0_sendBy_39 : decode cX0_sendBy 39 = .ok (.if_icmp .ne 80, 3) := dcs_160 (n := 80) (by decide +kernel)
theorem dX0_sendBy_42 : decode cX0_sendBy 42 = .ok (.iload_n 3, 1) := dc1_29 (by decide +kernel)
theorem dX0_sendBy_43 : decode cX0_sendBy 43 = .ok (.iload 6, 2) := dcu_21 (by decide +kernel)
theorem dX0_sendBy_45 : decode cX0_sendBy 45 = .ok (.invokestatic 112, 3) := dcw_184 (by decide +kernel)
theorem dX0_sendBy_48 : decode cX0_sendBy 48 = .ok (.istore 7, 2) := dcu_54 (by decide +kernel)
theorem dX0_sendBy_50 : decode cX0_sendBy 50 = .ok (.aload_n 0, 1) := dc1_42 (by decide +kernel)
theorem dX0_sendBy_51 : decode cX0_sendBy 51 = .ok (.aload_n 1, 1) := dc1_43 (by decide +kernel)
theorem dX0_sendBy_52 : decode cX0_sendBy 52 = .ok (.iload_n 2, 1) := dc1_28 (by decide +kernel)
theorem dX0_sendBy_53 : decode cX0_sendBy 53 = .ok (.iload 6, 2) := dcu_21 (by decide +kernel)
theorem dX0_sendBy_55 : decode cX0_sendBy 55 = .ok (.iload 7, 2) := dcu_21 (by decide +kernel)
theorem dX0_sendBy_57 : decode cX0_sendBy 57 = .ok (.invokevirtual 115, 3) := dcw_182 (by decide +kernel)
theorem dX0_sendBy_60 : decode cX0_sendBy 60 = .ok (.ifCond .ne 9, 3) := dcs_154 (n := 9) (by decide +kernel)
theorem dX0_sendBy_63 : decode cX0_sendBy 63 = .ok (.iconst 1, 1) := dc1_4 (by decide +kernel)
theorem dX0_sendBy_64 : decode cX0_sendBy 64 = .ok (.istore 4, 2) := dcu_54 (by decide +kernel)
theorem dX0_sendBy_66 : decode cX0_sendBy 66 = .ok (.goto 47, 3) := dcs_167 (n := 47) (by decide +kernel)
theorem dX0_sendBy_69 : decode cX0_sendBy 69 = .ok (.iload 7, 2) := dcu_21 (by decide +kernel)
theorem dX0_sendBy_71 : decode cX0_sendBy 71 = .ok (.aload_n 0, 1) := dc1_42 (by decide +kernel)
theorem dX0_sendBy_72 : decode cX0_sendBy 72 = .ok (.aload_n 1, 1) := dc1_43 (by decide +kernel)
theorem dX0_sendBy_73 : decode cX0_sendBy 73 = .ok (.iload 6, 2) := dcu_21 (by decide +kernel)
theorem dX0_sendBy_75 : decode cX0_sendBy 75 = .ok (.invokevirtual 119, 3) := dcw_182 (by decide +kernel)
theorem dX0_sendBy_78 : decode cX0_sendBy 78 = .ok (.if_icmp .eq 23, 3) := dcs_159 (n := 23) (by decide +kernel)
theorem dX0_sendBy_81 : decode cX0_sendBy 81 = .ok (.aload_n 1, 1) := dc1_43 (by decide +kernel)
theorem dX0_sendBy_82 : decode cX0_sendBy 82 = .ok (.getfield 36, 3) := dcw_180 (by decide +kernel)
theorem dX0_sendBy_85 : decode cX0_sendBy 85 = .ok (.iload 6, 2) := dcu_21 (by decide +kernel)
theorem dX0_sendBy_87 : decode cX0_sendBy 87 = .ok (.dup2, 1) := dc1_92 (by decide +kernel)
theorem dX0_sendBy_88 : decode cX0_sendBy 88 = .ok (.iaload, 1) := dc1_46 (by decide +kernel)
theorem dX0_sendBy_89 : decode cX0_sendBy 89 = .ok (.iconst 1, 1) := dc1_4 (by decide +kernel)
theorem dX0_sendBy_90 : decode cX0_sendBy 90 = .ok (.iload 7, 2) := dcu_21 (by decide +kernel)
theorem dX0_sendBy_92 : decode cX0_sendBy 92 = .ok (.ishl, 1) := dc1_120 (by decide +kernel)
theorem dX0_sendBy_93 : decode cX0_sendBy 93 = .ok (.ior, 1) := dc1_128 (by decide +kernel)
theorem dX0_sendBy_94 : decode cX0_sendBy 94 = .ok (.iastore, 1) := dc1_79 (by decide +kernel)
theorem dX0_sendBy_95 : decode cX0_sendBy 95 = .ok (.iconst 0, 1) := dc1_3 (by decide +kernel)
theorem dX0_sendBy_96 : decode cX0_sendBy 96 = .ok (.istore 4, 2) := dcu_54 (by decide +kernel)
theorem dX0_sendBy_98 : decode cX0_sendBy 98 = .ok (.goto 15, 3) := dcs_167 (n := 15) (by decide +kernel)
theorem dX0_sendBy_101 : decode cX0_sendBy 101 = .ok (.aload_n 1, 1) := dc1_43 (by decide +kernel)
theorem dX0_sendBy_102 : decode cX0_sendBy 102 = .ok (.getfield 28, 3) := dcw_180 (by decide +kernel)
theorem dX0_sendBy_105 : decode cX0_sendBy 105 = .ok (.iload 6, 2) := dcu_21 (by decide +kernel)
theorem dX0_sendBy_107 : decode cX0_sendBy 107 = .ok (.iload 7, 2) := dcu_21 (by decide +kernel)
theorem dX0_sendBy_109 : decode cX0_sendBy 109 = .ok (.iastore, 1) := dc1_79 (by decide +kernel)
theorem dX0_sendBy_110 : decode cX0_sendBy 110 = .ok (.iinc 5 1, 3) := dc_iinc (m := 1) (by decide +kernel)
theorem dX0_sendBy_113 : decode cX0_sendBy 113 = .ok (.iinc 6 1, 3) := dc_iinc (m := 1) (by decide +kernel)
theorem dX0_sendBy_116 : decode cX0_sendBy 116 = .ok (.goto (-92), 3) := dcs_167 (n := 65444) (by decide +kernel)
theorem dX0_sendBy_119 : decode cX0_sendBy 119 = .ok (.aload_n 1, 1) := dc1_43 (by decide +kernel)
theorem dX0_sendBy_120 : decode cX0_sendBy 120 = .ok (.getfield 122, 3) := dcw_180 (by decide +kernel)
theorem dX0_sendBy_123 : decode cX0_sendBy 123 = .ok (.iload_n 2, 1) := dc1_28 (by decide +kernel)
theorem dX0_sendBy_124 : decode cX0_sendBy 124 = .ok (.iload 4, 2) := dcu_21 (by decide +kernel)
theorem dX0_sendBy_126 : decode cX0_sendBy 126 = .ok (.iastore, 1) := dc1_79 (by decide +kernel)
theorem dX0_sendBy_127 : decode cX0_sendBy 127 = .ok (.aload_n 1, 1) := dc1_43 (by decide +kernel)
theorem dX0_sendBy_128 : decode cX0_sendBy 128 = .ok (.getfield 68, 3) := dcw_180 (by decide +kernel)
theorem dX0_sendBy_131 : decode cX0_sendBy 131 = .ok (.iload_n 2, 1) := dc1_28 (by decide +kernel)
theorem dX0_sendBy_132 : decode cX0_sendBy 132 = .ok (.dup2, 1) := dc1_92 (by decide +kernel)
theorem dX0_sendBy_133 : decode cX0_sendBy 133 = .ok (.iaload, 1) := dc1_46 (by decide +kernel)
theorem dX0_sendBy_134 : decode cX0_sendBy 134 = .ok (.iconst 1, 1) := dc1_4 (by decide +kernel)
theorem dX0_sendBy_135 : decode cX0_sendBy 135 = .ok (.iadd, 1) := dc1_96 (by decide +kernel)
theorem dX0_sendBy_136 : decode cX0_sendBy 136 = .ok (.iastore, 1) := dc1_79 (by decide +kernel)
theorem dX0_sendBy_137 : decode cX0_sendBy 137 = .ok (.iload 5, 2) := dcu_21 (by decide +kernel)
theorem dX0_sendBy_139 : decode cX0_sendBy 139 = .ok (.ireturn, 1) := dc1_172 (by decide +kernel)
theorem ggX0_passYearOver_X10_lot : GoodIn wsX0_passYearOver wsX10_lot := gi_sub (fun w h => List.mem_cons_of_mem _ (List.mem_append_left _ (List.mem_append_left _ (List.mem_append_left _ (List.mem_append_left _ (List.mem_append_right _ (List.mem_append_left _ h))))))) gd_wsX10_lot
set_option maxRecDepth 20000 in
theorem gX0_passYearOver_X10_lot_n129 : GoodIn wsX0_passYearOver (wsX10_lot) := ggX0_passYearOver_X10_lot
theorem ggX0_passYearOver_X0_shiftsOf : GoodIn wsX0_passYearOver wsX0_shiftsOf := gi_sub (fun w h => List.mem_cons_of_mem _ (List.mem_append_left _ (List.mem_append_left _ (List.mem_append_left _ (List.mem_append_left _ (List.mem_append_right _ (List.mem_append_right _ h))))))) gd_wsX0_shiftsOf
set_option maxRecDepth 20000 in
theorem gX0_passYearOver_X0_shiftsOf : GoodIn wsX0_passYearOver (wsV RX0 132 RX0 yX0_shiftsOf wsX0_shiftsOf) := goodIn_app (goodIn_r _ [5, 6, 7, 8] (by decide +kernel) (by decide +kernel)) ggX0_passYearOver_X0_shiftsOf
theorem dX0_passYearOver_0 : decode cX0_passYearOver 0 = .ok (.bipush 100, 2) := dcb_16 (n := 100) (by decide +kernel)
theorem dX0_passYearOver_2 : decode cX0_passYearOver 2 = .ok (.aload_n 0, 1) := dc1_42 (by decide +kernel)
theorem dX0_passYearOver_3 : decode cX0_passYearOver 3 = .ok (.getfield 9, 3) := dcw_180 (by decide +kernel)
theorem dX0_passYearOver_6 : decode cX0_passYearOver 6 = .ok (.getfield 42, 3) := dcw_180 (by decide +kernel)
theorem dX0_passYearOver_9 : decode cX0_passYearOver 9 = .ok (.bipush 8, 2) := dcb_16 (n := 8) (by decide +kernel)
theorem dX0_passYearOver_11 : decode cX0_passYearOver 11 = .ok (.aload_n 1, 1) := dc1_43 (by decide +kernel)
theorem dX0_passYearOver_12 : decode cX0_passYearOver 12 = .ok (.getfield 59, 3) := dcw_180 (by decide +kernel)
theorem dX0_passYearOver_15 : decode cX0_passYearOver 15 = .ok (.imul, 1) := dc1_104 (by decide +kernel)
theorem dX0_passYearOver_16 : decode cX0_passYearOver 16 = .ok (.ldc 128, 2) := dcu_18 (by decide +kernel)
theorem dX0_passYearOver_18 : decode cX0_passYearOver 18 = .ok (.iadd, 1) := dc1_96 (by decide +kernel)
theorem dX0_passYearOver_19 : decode cX0_passYearOver 19 = .ok (.iload_n 2, 1) := dc1_28 (by decide +kernel)
theorem dX0_passYearOver_20 : decode cX0_passYearOver 20 = .ok (.iadd, 1) := dc1_96 (by decide +kernel)
theorem dX0_passYearOver_21 : decode cX0_passYearOver 21 = .ok (.invokestatic 129, 3) := dcw_184 (by decide +kernel)
theorem dX0_passYearOver_24 : decode cX0_passYearOver 24 = .ok (.istore_n 3, 1) := dc1_62 (by decide +kernel)
theorem dX0_passYearOver_25 : decode cX0_passYearOver 25 = .ok (.iload_n 3, 1) := dc1_29 (by decide +kernel)
theorem dX0_passYearOver_26 : decode cX0_passYearOver 26 = .ok (.aload_n 0, 1) := dc1_42 (by decide +kernel)
theorem dX0_passYearOver_27 : decode cX0_passYearOver 27 = .ok (.aload_n 1, 1) := dc1_43 (by decide +kernel)
theorem dX0_passYearOver_28 : decode cX0_passYearOver 28 = .ok (.iload_n 2, 1) := dc1_28 (by decide +kernel)
theorem dX0_passYearOver_29 : decode cX0_passYearOver 29 = .ok (.invokevirtual 132, 3) := dcw_182 (by decide +kernel)
theorem dX0_passYearOver_32 : decode cX0_passYearOver 32 = .ok (.if_icmp .ge 27, 3) := dcs_162 (n := 27) (by decide +kernel)
theorem dX0_passYearOver_35 : decode cX0_passYearOver 35 = .ok (.aload_n 1, 1) := dc1_43 (by decide +kernel)
theorem dX0_passYearOver_36 : decode cX0_passYearOver 36 = .ok (.getfield 39, 3) := dcw_180 (by decide +kernel)
theorem dX0_passYearOver_39 : decode cX0_passYearOver 39 = .ok (.iload_n 2, 1) := dc1_28 (by decide +kernel)
theorem dX0_passYearOver_40 : decode cX0_passYearOver 40 = .ok (.dup2, 1) := dc1_92 (by decide +kernel)
theorem dX0_passYearOver_41 : decode cX0_passYearOver 41 = .ok (.iaload, 1) := dc1_46 (by decide +kernel)
theorem dX0_passYearOver_42 : decode cX0_passYearOver 42 = .ok (.iconst 1, 1) := dc1_4 (by decide +kernel)
theorem dX0_passYearOver_43 : decode cX0_passYearOver 43 = .ok (.iadd, 1) := dc1_96 (by decide +kernel)
theorem dX0_passYearOver_44 : decode cX0_passYearOver 44 = .ok (.iastore, 1) := dc1_79 (by decide +kernel)
theorem dX0_passYearOver_45 : decode cX0_passYearOver 45 = .ok (.aload_n 1, 1) := dc1_43 (by decide +kernel)
theorem dX0_passYearOver_46 : decode cX0_passYearOver 46 = .ok (.getfield 28, 3) := dcw_180 (by decide +kernel)
theorem dX0_passYearOver_49 : decode cX0_passYearOver 49 = .ok (.iload_n 2, 1) := dc1_28 (by decide +kernel)
theorem dX0_passYearOver_50 : decode cX0_passYearOver 50 = .ok (.iconst (-1), 1) := dc1_2 (by decide +kernel)
theorem dX0_passYearOver_51 : decode cX0_passYearOver 51 = .ok (.iastore, 1) := dc1_79 (by decide +kernel)
theorem dX0_passYearOver_52 : decode cX0_passYearOver 52 = .ok (.aload_n 1, 1) := dc1_43 (by decide +kernel)
theorem dX0_passYearOver_53 : decode cX0_passYearOver 53 = .ok (.getfield 36, 3) := dcw_180 (by decide +kernel)
theorem dX0_passYearOver_56 : decode cX0_passYearOver 56 = .ok (.iload_n 2, 1) := dc1_28 (by decide +kernel)
theorem dX0_passYearOver_57 : decode cX0_passYearOver 57 = .ok (.iconst 0, 1) := dc1_3 (by decide +kernel)
theorem dX0_passYearOver_58 : decode cX0_passYearOver 58 = .ok (.iastore, 1) := dc1_79 (by decide +kernel)
theorem dX0_passYearOver_59 : decode cX0_passYearOver 59 = .ok (.return_, 1) := dc1_177 (by decide +kernel)
theorem ggX2_bestThing_X2_oddsIfMay : GoodIn wsX2_bestThing wsX2_oddsIfMay := gi_sub (fun w h => List.mem_cons_of_mem _ (List.mem_append_left _ (List.mem_append_left _ (List.mem_append_left _ (List.mem_append_left _ (List.mem_append_left _ (List.mem_append_right _ (List.mem_append_left _ h)))))))) gd_wsX2_oddsIfMay
set_option maxRecDepth 20000 in
theorem gX2_bestThing_X2_oddsIfMay : GoodIn wsX2_bestThing (wsV RX2 53 RX2 yX2_oddsIfMay wsX2_oddsIfMay) := goodIn_app (goodIn_r _ [2, 3, 4, 5] (by decide +kernel) (by decide +kernel)) ggX2_bestThing_X2_oddsIfMay
theorem ggX2_bestThing_X0_needOf : GoodIn wsX2_bestThing wsX0_needOf := gi_sub (fun w h => List.mem_cons_of_mem _ (List.mem_append_left _ (List.mem_append_left _ (List.mem_append_left _ (List.mem_append_left _ (List.mem_append_left _ (List.mem_append_right _ (List.mem_append_right _ h)))))))) gd_wsX0_needOf
set_option maxRecDepth 20000 in
theorem gX2_bestThing_X0_needOf_n71 : GoodIn wsX2_bestThing (wsX0_needOf) := ggX2_bestThing_X0_needOf
theorem dX2_bestThing_0 : decode cX2_bestThing 0 = .ok (.iconst (-1), 1) := dc1_2 (by decide +kernel)
theorem dX2_bestThing_1 : decode cX2_bestThing 1 = .ok (.istore 4, 2) := dcu_54 (by decide +kernel)
theorem dX2_bestThing_3 : decode cX2_bestThing 3 = .ok (.iconst 0, 1) := dc1_3 (by decide +kernel)
theorem dX2_bestThing_4 : decode cX2_bestThing 4 = .ok (.istore 5, 2) := dcu_54 (by decide +kernel)
theorem dX2_bestThing_6 : decode cX2_bestThing 6 = .ok (.iconst 0, 1) := dc1_3 (by decide +kernel)
theorem dX2_bestThing_7 : decode cX2_bestThing 7 = .ok (.istore 6, 2) := dcu_54 (by decide +kernel)
theorem dX2_bestThing_9 : decode cX2_bestThing 9 = .ok (.iload 6, 2) := dcu_21 (by decide +kernel)
theorem dX2_bestThing_11 : decode cX2_bestThing 11 = .ok (.bipush 6, 2) := dcb_16 (n := 6) (by decide +kernel)
theorem dX2_bestThing_13 : decode cX2_bestThing 13 = .ok (.if_icmp .ge 56, 3) := dcs_162 (n := 56) (by decide +kernel)
theorem dX2_bestThing_16 : decode cX2_bestThing 16 = .ok (.aload_n 0, 1) := dc1_42 (by decide +kernel)
theorem dX2_bestThing_17 : decode cX2_bestThing 17 = .ok (.aload_n 1, 1) := dc1_43 (by decide +kernel)
theorem dX2_bestThing_18 : decode cX2_bestThing 18 = .ok (.iload_n 3, 1) := dc1_29 (by decide +kernel)
theorem dX2_bestThing_19 : decode cX2_bestThing 19 = .ok (.iload 6, 2) := dcu_21 (by decide +kernel)
theorem dX2_bestThing_21 : decode cX2_bestThing 21 = .ok (.invokevirtual 53, 3) := dcw_182 (by decide +kernel)
theorem dX2_bestThing_24 : decode cX2_bestThing 24 = .ok (.istore 7, 2) := dcu_54 (by decide +kernel)
theorem dX2_bestThing_26 : decode cX2_bestThing 26 = .ok (.iload 7, 2) := dcu_21 (by decide +kernel)
theorem dX2_bestThing_28 : decode cX2_bestThing 28 = .ok (.iload 5, 2) := dcu_21 (by decide +kernel)
theorem dX2_bestThing_30 : decode cX2_bestThing 30 = .ok (.if_icmp .le 33, 3) := dcs_164 (n := 33) (by decide +kernel)
theorem dX2_bestThing_33 : decode cX2_bestThing 33 = .ok (.iload_n 2, 1) := dc1_28 (by decide +kernel)
theorem dX2_bestThing_34 : decode cX2_bestThing 34 = .ok (.iconst (-1), 1) := dc1_2 (by decide +kernel)
theorem dX2_bestThing_35 : decode cX2_bestThing 35 = .ok (.if_icmp .eq 20, 3) := dcs_159 (n := 20) (by decide +kernel)
theorem dX2_bestThing_38 : decode cX2_bestThing 38 = .ok (.iload 7, 2) := dcu_21 (by decide +kernel)
theorem dX2_bestThing_40 : decode cX2_bestThing 40 = .ok (.aload_n 0, 1) := dc1_42 (by decide +kernel)
theorem dX2_bestThing_41 : decode cX2_bestThing 41 = .ok (.getfield 28, 3) := dcw_180 (by decide +kernel)
theorem dX2_bestThing_44 : decode cX2_bestThing 44 = .ok (.aload_n 1, 1) := dc1_43 (by decide +kernel)
theorem dX2_bestThing_45 : decode cX2_bestThing 45 = .ok (.iload_n 2, 1) := dc1_28 (by decide +kernel)
theorem dX2_bestThing_46 : decode cX2_bestThing 46 = .ok (.iload_n 3, 1) := dc1_29 (by decide +kernel)
theorem dX2_bestThing_47 : decode cX2_bestThing 47 = .ok (.iload 6, 2) := dcu_21 (by decide +kernel)
theorem dX2_bestThing_49 : decode cX2_bestThing 49 = .ok (.invokevirtual 71, 3) := dcw_182 (by decide +kernel)
theorem dX2_bestThing_52 : decode cX2_bestThing 52 = .ok (.if_icmp .lt 11, 3) := dcs_161 (n := 11) (by decide +kernel)
theorem dX2_bestThing_55 : decode cX2_bestThing 55 = .ok (.iload 6, 2) := dcu_21 (by decide +kernel)
theorem dX2_bestThing_57 : decode cX2_bestThing 57 = .ok (.istore 4, 2) := dcu_54 (by decide +kernel)
theorem dX2_bestThing_59 : decode cX2_bestThing 59 = .ok (.iload 7, 2) := dcu_21 (by decide +kernel)
theorem dX2_bestThing_61 : decode cX2_bestThing 61 = .ok (.istore 5, 2) := dcu_54 (by decide +kernel)
theorem dX2_bestThing_63 : decode cX2_bestThing 63 = .ok (.iinc 6 1, 3) := dc_iinc (m := 1) (by decide +kernel)
theorem dX2_bestThing_66 : decode cX2_bestThing 66 = .ok (.goto (-57), 3) := dcs_167 (n := 65479) (by decide +kernel)
theorem dX2_bestThing_69 : decode cX2_bestThing 69 = .ok (.iload 4, 2) := dcu_21 (by decide +kernel)
theorem dX2_bestThing_71 : decode cX2_bestThing 71 = .ok (.ireturn, 1) := dc1_172 (by decide +kernel)
theorem LX0_needOf_27 : Cond.fieldLink RX0 27 "GuessFerry$Crossing" "vars" "[I" ∈ wsX0_needOf := by decide +kernel
theorem LX0_needOf_9 : Cond.fieldLink RX0 9 "GuessFerry$Crossing" "sound" "LGuessFerry$Sound;" ∈ wsX0_needOf := by decide +kernel
theorem LX0_needOf_E_X1_valueOf : Cond.selects RX1 yX1_valueOf yX1_valueOf ∈ wsX0_needOf := by decide +kernel
theorem LX0_needOf_E_X5_oddsAt : Cond.selects RX5 yX5_oddsAt yX5_oddsAt ∈ wsX0_needOf := by decide +kernel
theorem LX0_needOf_I_X1 : Cond.initialized RX1 ∈ wsX0_needOf := by decide +kernel
theorem LX0_needOf_I_X10 : Cond.initialized RX10 ∈ wsX0_needOf := by decide +kernel
theorem LX0_needOf_I_X5 : Cond.initialized RX5 ∈ wsX0_needOf := by decide +kernel
theorem LX0_needOf_N_X1_valueOf : Cond.instanceMethod yX1_valueOf ∈ wsX0_needOf := by decide +kernel
theorem LX0_needOf_N_X5_oddsAt : Cond.instanceMethod yX5_oddsAt ∈ wsX0_needOf := by decide +kernel
theorem LX0_needOf_S_X10_heldTo : Cond.static yX10_heldTo ∈ wsX0_needOf := by decide +kernel
theorem inX0_needOf_X0 : ∀ w ∈ u_ws RX0 TX0 2, w ∈ wsX0_needOf := by decide +kernel
theorem inX0_needOf_X5 : ∀ w ∈ u_ws RX5 TX5 10, w ∈ wsX0_needOf := by decide +kernel
set_option maxHeartbeats 4000000 in
set_option maxRecDepth 100000 in
theorem bkX0_needOf {l : Launch} {dC : Nat → ClassId} {dI : Nat → Nat → Nat} {cB cI cJ cZ cS : ClassId} {a b : Nat → Nat} {as : List Value} {r : Int32} {s' : JS} (s : JS) (x2 : Int32) (x3 : Int32) (x4 : Int32) (hB : kX0_needOf s x2 x3 x4 = some (r, s')) : BlkI l yX0_needOf wsX0_needOf ({ frames := 3, cells := 0, slots := 0, locals := 76 }) cX0_needOf 5 (some .int) (dC, dI) (tysA cB cI cJ cZ cS) as 0 (wJ cB cI cJ cZ cS a b s) [(0, .ref (a 35)), (1, .ref (b 0)), (2, .int x2), (3, .int x3), (4, .int x4)] [] (fun x u => x = r ∧ u = (wJ cB cI cJ cZ cS a b s')) := by
  intro p e s0 m below meth c A E H locs ls hP hD hS hl
  obtain ⟨C, hr, hlocks, hA, hK, hN⟩ := id E
  obtain ⟨hx, hb, hml, hown, hts⟩ := id C
  unfold kX0_needOf at hB
  refine lv_aload_n hx hb dX0_needOf_0 rfl (lv_at hl 0 rfl) ?_
  refine lv_aload_n hx hb dX0_needOf_1 rfl (lv_at hl 1 rfl) ?_
  obtain ⟨s1, hc, hB⟩ := bindP_inv hB
  refine q_govF (va_runV (As := [.ref (b 0)]) (rest := []) C (ckX0_clearVars hc _) (cwV 1 hts gX0_needOf_X0_clearVars rfl rfl rfl (by decide +kernel) ⟨Nat.le_of_ble_eq_true rfl, Nat.le_of_ble_eq_true rfl⟩) (q_preV hK hP (ci := 0) (q0 := 41) rfl rfl rfl (q_preF hN hK hP hD)) rfl rfl hl.1 rfl (lv_room (Nat.le_of_ble_eq_true rfl)) dX0_needOf_2 ⟨Nat.le_of_ble_eq_true rfl, Nat.le_of_ble_eq_true rfl⟩) hD hS hA (fun w1 H locs hw hP hD hS => ?_)
  subst hw
  refine lv_aload_n hx hb dX0_needOf_5 rfl (lv_at hl 0 rfl) ?_
  refine lv_aload_n hx hb dX0_needOf_6 rfl (lv_at hl 1 rfl) ?_
  refine lv_iload_n hx hb dX0_needOf_7 rfl (lv_at hl 2 rfl) ?_
  obtain ⟨s2, hc, hB⟩ := bindP_inv hB
  refine q_govF (va_runV (As := [.ref (b 0), .int x2]) (rest := []) C (ckX0_setParty hc _) (cwV 2 hts gX0_needOf_X0_setParty rfl rfl rfl (by decide +kernel) ⟨Nat.le_of_ble_eq_true rfl, Nat.le_of_ble_eq_true rfl⟩) (q_preV hK hP (ci := 0) (q0 := 41) rfl rfl rfl (q_preF hN hK hP hD)) rfl rfl hl.1 rfl (lv_room (Nat.le_of_ble_eq_true rfl)) dX0_needOf_8 ⟨Nat.le_of_ble_eq_true rfl, Nat.le_of_ble_eq_true rfl⟩) hD hS hA (fun w1 H locs hw hP hD hS => ?_)
  subst hw
  refine lv_aload_n hx hb dX0_needOf_11 rfl (lv_at hl 0 rfl) ?_
  refine lv_aload_n hx hb dX0_needOf_12 rfl (lv_at hl 1 rfl) ?_
  refine lv_iload_n hx hb dX0_needOf_13 rfl (lv_at hl 3 rfl) ?_
  obtain ⟨s3, hc, hB⟩ := bindP_inv hB
  refine q_govF (va_runV (As := [.ref (b 0), .int x3]) (rest := []) C (ckX0_setWave hc _) (cwV 2 hts gX0_needOf_X0_setWave rfl rfl rfl (by decide +kernel) ⟨Nat.le_of_ble_eq_true rfl, Nat.le_of_ble_eq_true rfl⟩) (q_preV hK hP (ci := 0) (q0 := 41) rfl rfl rfl (q_preF hN hK hP hD)) rfl rfl hl.1 rfl (lv_room (Nat.le_of_ble_eq_true rfl)) dX0_needOf_14 ⟨Nat.le_of_ble_eq_true rfl, Nat.le_of_ble_eq_true rfl⟩) hD hS hA (fun w1 H locs hw hP hD hS => ?_)
  subst hw
  refine lv_aload_n hx hb dX0_needOf_17 rfl (lv_at hl 0 rfl) ?_
  refine q_get (v := .ref (a 13)) C inX0_needOf_X0 hK hP 41 rfl rfl 1 (by decide) rfl LX0_needOf_27 rfl dX0_needOf_18 ?_
  refine lv_iconst (v := 1) hx hb dX0_needOf_21 (by decide) ?_
  refine lv_aload_n hx hb dX0_needOf_22 rfl (lv_at hl 0 rfl) ?_
  refine q_get (v := .ref (a 2)) C inX0_needOf_X0 hK hP 41 rfl rfl 0 (by decide) rfl LX0_needOf_9 rfl dX0_needOf_23 ?_
  refine lv_iload_n hx hb dX0_needOf_26 rfl (lv_at hl 3 rfl) ?_
  refine lv_iload hx hb dX0_needOf_27 (lv_at hl 4 rfl) ?_
  obtain ⟨q_, s4, hc, hB⟩ := bindI_inv hB
  refine q_goi (wr := ((wD cI b s3.d))) (va_runVN (As := [.int x3, .int x4]) (rest := [.int 1, .ref (a 13)]) C (ckX5_oddsAt hc _) ⟨va_cnB 2 hts gX0_needOf_X5_oddsAt_n92 rfl rfl rfl (hN _ nwM_X0_92 rfl) (hts _ LX0_needOf_I_X5) (by decide +kernel) ⟨Nat.le_of_ble_eq_true rfl, Nat.le_of_ble_eq_true rfl⟩, hts _ LX0_needOf_N_X5_oddsAt, hts _ LX0_needOf_E_X5_oddsAt⟩ (q_preV hK hP (ci := 5) (q0 := 8) rfl rfl rfl (q_pre hN hK hP hD [6, 7, 8, 9, 10, 11, 12, 13, 14, 15, 16, 17, 18, 19, 20, 21, 22, 23, 24, 25, 26, 27, 28, 29, 30, 31, 32, 33, 34, 35, 36, 37, 38, 39, 40, 41, 42, 43, 44, 45, 46, 47, 48, 49, 50, 51, 52] rfl (by decide))) rfl rfl hl.1 rfl (lv_room (Nat.le_of_ble_eq_true rfl)) dX0_needOf_29 ⟨Nat.le_of_ble_eq_true rfl, Nat.le_of_ble_eq_true rfl⟩) hP hD hS hA [6, 7, 8, 9, 10, 11, 12, 13, 14, 15, 16, 17, 18, 19, 20, 21, 22, 23, 24, 25, 26, 27, 28, 29, 30, 31, 32, 33, 34, 35, 36, 37, 38, 39, 40, 41, 42, 43, 44, 45, 46, 47, 48, 49, 50, 51, 52] [0, 1, 2, 3, 4, 5] rfl rfl (by decide) (by decide) (fun r5 w1 H locs hw hP hD hS => ?_)
  obtain ⟨hq_, hw⟩ := hw; subst hw; subst hq_
  obtain ⟨s6, hs7, hB⟩ := letS_inv hB
  have hP : va_P (dC, dI) vwCl (wJ cB cI cJ cZ cS a b s6) H := by subst hs7; exact hP
  have hD : va_D A (wJ cB cI cJ cZ cS a b s6) := by subst hs7; exact hD
  obtain ⟨s8, hs9, hB⟩ := letS_inv hB
  refine q_iast (f2 := (upd (s6.k.f 13) 1 r5)) (w2 := (wJ cB cI cJ cZ cS a b s8)) C hK hP hD hS 19 1 rfl rfl (vp_lit (by decide +kernel)) dX0_needOf_32 rfl (by subst hs9; rfl) (fun H locs hP hD hS => ?_)
  refine lv_bipush (v := 9) hx hb dX0_needOf_33 (by decide) ?_
  refine lv_aload_n hx hb dX0_needOf_35 rfl (lv_at hl 0 rfl) ?_
  refine q_get (v := .ref (a 2)) C inX0_needOf_X0 hK hP 41 rfl rfl 0 (by decide) rfl LX0_needOf_9 rfl dX0_needOf_36 ?_
  refine q_getN (v := .ref (a 8)) C hN inX0_needOf_X5 hK hP 8 rfl rfl 5 (by decide) rfl nwF_X0_15 rfl dX0_needOf_39 ?_
  refine lv_iconst (v := 0) hx hb dX0_needOf_42 (by decide) ?_
  obtain ⟨q_, s10, hc, hB⟩ := bindI_inv hB
  refine q_goi (wr := ((wD cI b s8.d))) (va_runVN (As := [.int 0]) (rest := [.int 9]) C (ckX1_valueOf hc _) ⟨va_cnB 1 hts gX0_needOf_X1_valueOf_n96 rfl rfl rfl (hN _ nwM_X0_96 rfl) (hts _ LX0_needOf_I_X1) (by decide +kernel) ⟨Nat.le_of_ble_eq_true rfl, Nat.le_of_ble_eq_true rfl⟩, hts _ LX0_needOf_N_X1_valueOf, hts _ LX0_needOf_E_X1_valueOf⟩ (q_preV hK hP (ci := 1) (q0 := 14) rfl rfl rfl (q_pre hN hK hP hD [6, 7, 8, 9, 10, 11, 12, 13, 14, 15, 16, 17, 18, 19, 20, 21, 22, 23, 24, 25, 26, 27, 28, 29, 30, 31, 32, 33, 34, 35, 36, 37, 38, 39, 40, 41, 42, 43, 44, 45, 46, 47, 48, 49, 50, 51, 52] rfl (by decide))) rfl rfl hl.1 rfl (lv_room (Nat.le_of_ble_eq_true rfl)) dX0_needOf_43 ⟨Nat.le_of_ble_eq_true rfl, Nat.le_of_ble_eq_true rfl⟩) hP hD hS hA [6, 7, 8, 9, 10, 11, 12, 13, 14, 15, 16, 17, 18, 19, 20, 21, 22, 23, 24, 25, 26, 27, 28, 29, 30, 31, 32, 33, 34, 35, 36, 37, 38, 39, 40, 41, 42, 43, 44, 45, 46, 47, 48, 49, 50, 51, 52] [0, 1, 2, 3, 4, 5] rfl rfl (by decide) (by decide) (fun r11 w1 H locs hw hP hD hS => ?_)
  obtain ⟨hq_, hw⟩ := hw; subst hw; subst hq_
  obtain ⟨s12, hs13, hB⟩ := letS_inv hB
  have hP : va_P (dC, dI) vwCl (wJ cB cI cJ cZ cS a b s12) H := by subst hs13; exact hP
  have hD : va_D A (wJ cB cI cJ cZ cS a b s12) := by subst hs13; exact hD
  obtain ⟨q_, hc, hB⟩ := bindP_inv hB
  refine q_goi0 (va_runSN (As := [.int 9, .int r11]) (rest := []) C (ckX10_heldTo hc _) ⟨va_cnB 2 hts gX0_needOf_X10_heldTo_n99 rfl rfl rfl (hN _ nwM_X0_99 rfl) (hts _ LX0_needOf_I_X10) (by decide +kernel) ⟨Nat.le_of_ble_eq_true rfl, Nat.le_of_ble_eq_true rfl⟩, hts _ LX0_needOf_S_X10_heldTo, trivial⟩ (q_pre0 hN hK) rfl rfl hl.1 rfl (lv_room (Nat.le_of_ble_eq_true rfl)) dX0_needOf_46 ⟨Nat.le_of_ble_eq_true rfl, Nat.le_of_ble_eq_true rfl⟩) hP hD hS hA (fun r14 w1 H locs hw hP hS => ?_)
  subst hw
  exact q_iret C hr hlocks hK hP hD hS (Nat.le_of_ble_eq_true rfl) (Nat.le_of_ble_eq_true rfl) dX0_needOf_49 (by cases hB; exact ⟨rfl, rfl⟩)
theorem ckX0_needOf {l : Launch} {dC : Nat → ClassId} {dI : Nat → Nat → Nat} {cB cI cJ cZ cS : ClassId} {a b : Nat → Nat} {r : Int32} {s' : JS} {s : JS} {x2 : Int32} {x3 : Int32} {x4 : Int32} (hB : kX0_needOf s x2 x3 x4 = some (r, s')) : CI l yX0_needOf wsX0_needOf ({ frames := 3, cells := 0, slots := 0, locals := 76 }) (dC, dI) (tysA cB cI cJ cZ cS) (wJ cB cI cJ cZ cS a b s) [.ref (a 35), .ref (b 0), .int x2, .int x3, .int x4] (fun x u => x = r ∧ u = (wJ cB cI cJ cZ cS a b s')) :=
  CI_of (cc := cX0_needOf) (maxL := 5) (ret := (some .int)) (by decide) rfl (Nat.le_of_ble_eq_true rfl) (bkX0_needOf _ _ _ _ hB)
theorem LX0_isBearing_9 : Cond.fieldLink RX0 9 "GuessFerry$Crossing" "sound" "LGuessFerry$Sound;" ∈ wsX0_isBearing := by decide +kernel
theorem LX0_isBearing_E_X5_oddsAt : Cond.selects RX5 yX5_oddsAt yX5_oddsAt ∈ wsX0_isBearing := by decide +kernel
theorem LX0_isBearing_I_X5 : Cond.initialized RX5 ∈ wsX0_isBearing := by decide +kernel
theorem LX0_isBearing_N_X5_oddsAt : Cond.instanceMethod yX5_oddsAt ∈ wsX0_isBearing := by decide +kernel
theorem inX0_isBearing_X0 : ∀ w ∈ u_ws RX0 TX0 2, w ∈ wsX0_isBearing := by decide +kernel
set_option maxHeartbeats 4000000 in
set_option maxRecDepth 100000 in
theorem bkX0_isBearing {l : Launch} {dC : Nat → ClassId} {dI : Nat → Nat → Nat} {cB cI cJ cZ cS : ClassId} {a b : Nat → Nat} {as : List Value} {r : Int32} {s' : JS} (s : JS) (x2 : Int32) (x3 : Int32) (x4 : Int32) (hB : kX0_isBearing s x2 x3 x4 = some (r, s')) : BlkI l yX0_isBearing wsX0_isBearing ({ frames := 4, cells := 0, slots := 0, locals := 100 }) cX0_isBearing 5 (some .boolean) (dC, dI) (tysA cB cI cJ cZ cS) as 0 (wJ cB cI cJ cZ cS a b s) [(0, .ref (a 35)), (1, .ref (b 0)), (2, .int x2), (3, .int x3), (4, .int x4)] [] (fun x u => x = r ∧ u = (wJ cB cI cJ cZ cS a b s')) := by
  intro p e s0 m below meth c A E H locs ls hP hD hS hl
  obtain ⟨C, hr, hlocks, hA, hK, hN⟩ := id E
  obtain ⟨hx, hb, hml, hown, hts⟩ := id C
  unfold kX0_isBearing at hB
  refine lv_aload_n hx hb dX0_isBearing_0 rfl (lv_at hl 0 rfl) ?_
  refine q_get (v := .ref (a 2)) C inX0_isBearing_X0 hK hP 41 rfl rfl 0 (by decide) rfl LX0_isBearing_9 rfl dX0_isBearing_1 ?_
  refine lv_iload_n hx hb dX0_isBearing_4 rfl (lv_at hl 3 rfl) ?_
  refine lv_iload hx hb dX0_isBearing_5 (lv_at hl 4 rfl) ?_
  obtain ⟨q_, s1, hc, hB⟩ := bindI_inv hB
  refine q_goi (wr := ((wD cI b s.d))) (va_runVN (As := [.int x3, .int x4]) (rest := []) C (ckX5_oddsAt hc _) ⟨va_cnB 2 hts gX0_isBearing_X5_oddsAt_n92 rfl rfl rfl (hN _ nwM_X0_92 rfl) (hts _ LX0_isBearing_I_X5) (by decide +kernel) ⟨Nat.le_of_ble_eq_true rfl, Nat.le_of_ble_eq_true rfl⟩, hts _ LX0_isBearing_N_X5_oddsAt, hts _ LX0_isBearing_E_X5_oddsAt⟩ (q_preV hK hP (ci := 5) (q0 := 8) rfl rfl rfl (q_pre hN hK hP hD [6, 7, 8, 9, 10, 11, 12, 13, 14, 15, 16, 17, 18, 19, 20, 21, 22, 23, 24, 25, 26, 27, 28, 29, 30, 31, 32, 33, 34, 35, 36, 37, 38, 39, 40, 41, 42, 43, 44, 45, 46, 47, 48, 49, 50, 51, 52] rfl (by decide))) rfl rfl hl.1 rfl (lv_room (Nat.le_of_ble_eq_true rfl)) dX0_isBearing_7 ⟨Nat.le_of_ble_eq_true rfl, Nat.le_of_ble_eq_true rfl⟩) hP hD hS hA [6, 7, 8, 9, 10, 11, 12, 13, 14, 15, 16, 17, 18, 19, 20, 21, 22, 23, 24, 25, 26, 27, 28, 29, 30, 31, 32, 33, 34, 35, 36, 37, 38, 39, 40, 41, 42, 43, 44, 45, 46, 47, 48, 49, 50, 51, 52] [0, 1, 2, 3, 4, 5] rfl rfl (by decide) (by decide) (fun r2 w1 H locs hw hP hD hS => ?_)
  obtain ⟨hq_, hw⟩ := hw; subst hw; subst hq_
  obtain ⟨s3, hs4, hB⟩ := letS_inv hB
  have hP : va_P (dC, dI) vwCl (wJ cB cI cJ cZ cS a b s3) H := by subst hs4; exact hP
  have hD : va_D A (wJ cB cI cJ cZ cS a b s3) := by subst hs4; exact hD
  refine lv_aload_n hx hb dX0_isBearing_10 rfl (lv_at hl 0 rfl) ?_
  refine lv_aload_n hx hb dX0_isBearing_11 rfl (lv_at hl 1 rfl) ?_
  refine lv_iload_n hx hb dX0_isBearing_12 rfl (lv_at hl 2 rfl) ?_
  refine lv_iload_n hx hb dX0_isBearing_13 rfl (lv_at hl 3 rfl) ?_
  refine lv_iload hx hb dX0_isBearing_14 (lv_at hl 4 rfl) ?_
  obtain ⟨q_, s5, hc, hB⟩ := bindI_inv hB
  refine q_goiF (va_runV (As := [.ref (b 0), .int x2, .int x3, .int x4]) (rest := [.int r2]) C (ckX0_needOf hc _) (cwV 4 hts gX0_isBearing_X0_needOf rfl rfl rfl (by decide +kernel) ⟨Nat.le_of_ble_eq_true rfl, Nat.le_of_ble_eq_true rfl⟩) (q_preV hK hP (ci := 0) (q0 := 41) rfl rfl rfl (q_preF hN hK hP hD)) rfl rfl hl.1 rfl (lv_room (Nat.le_of_ble_eq_true rfl)) dX0_isBearing_16 ⟨Nat.le_of_ble_eq_true rfl, Nat.le_of_ble_eq_true rfl⟩) hD hS hA (fun r6 w1 H locs hw hP hD hS => ?_)
  obtain ⟨hq_, hw⟩ := hw; subst hw; subst hq_
  refine lv_icmp_lt (tgt := 26) hx hb dX0_isBearing_19 (by decide) (fun c7 => ?_) (fun c7 => ?_)
  · have hB := if_p hB c7
    refine lv_iconst (v := 0) hx hb dX0_isBearing_26 (by decide) ?_
    exact q_zret C hr hlocks (Or.inl rfl) hK hP hD hS (Nat.le_of_ble_eq_true rfl) (Nat.le_of_ble_eq_true rfl) dX0_isBearing_27 (by cases hB; exact ⟨rfl, rfl⟩)
  · have hB := if_n hB c7
    refine lv_iconst (v := 1) hx hb dX0_isBearing_22 (by decide) ?_
    refine lv_goto (tgt := 27) hx hb dX0_isBearing_23 (by decide) ?_
    exact q_zret C hr hlocks (Or.inr rfl) hK hP hD hS (Nat.le_of_ble_eq_true rfl) (Nat.le_of_ble_eq_true rfl) dX0_isBearing_27 (by cases hB; exact ⟨rfl, rfl⟩)
theorem ckX0_isBearing {l : Launch} {dC : Nat → ClassId} {dI : Nat → Nat → Nat} {cB cI cJ cZ cS : ClassId} {a b : Nat → Nat} {r : Int32} {s' : JS} {s : JS} {x2 : Int32} {x3 : Int32} {x4 : Int32} (hB : kX0_isBearing s x2 x3 x4 = some (r, s')) : CI l yX0_isBearing wsX0_isBearing ({ frames := 4, cells := 0, slots := 0, locals := 100 }) (dC, dI) (tysA cB cI cJ cZ cS) (wJ cB cI cJ cZ cS a b s) [.ref (a 35), .ref (b 0), .int x2, .int x3, .int x4] (fun x u => x = r ∧ u = (wJ cB cI cJ cZ cS a b s')) :=
  CI_of (cc := cX0_isBearing) (maxL := 5) (ret := (some .boolean)) (by decide) rfl (Nat.le_of_ble_eq_true rfl) (bkX0_isBearing _ _ _ _ hB)
theorem LX0_fareOf_9 : Cond.fieldLink RX0 9 "GuessFerry$Crossing" "sound" "LGuessFerry$Sound;" ∈ wsX0_fareOf := by decide +kernel
theorem LX0_fareOf_E_X1_valueOf : Cond.selects RX1 yX1_valueOf yX1_valueOf ∈ wsX0_fareOf := by decide +kernel
theorem LX0_fareOf_I_X1 : Cond.initialized RX1 ∈ wsX0_fareOf := by decide +kernel
theorem LX0_fareOf_I_X10 : Cond.initialized RX10 ∈ wsX0_fareOf := by decide +kernel
theorem LX0_fareOf_N_X1_valueOf : Cond.instanceMethod yX1_valueOf ∈ wsX0_fareOf := by decide +kernel
theorem LX0_fareOf_S_X10_heldTo : Cond.static yX10_heldTo ∈ wsX0_fareOf := by decide +kernel
theorem inX0_fareOf_X0 : ∀ w ∈ u_ws RX0 TX0 2, w ∈ wsX0_fareOf := by decide +kernel
theorem inX0_fareOf_X5 : ∀ w ∈ u_ws RX5 TX5 10, w ∈ wsX0_fareOf := by decide +kernel
set_option maxHeartbeats 4000000 in
set_option maxRecDepth 100000 in
theorem bkX0_fareOf {l : Launch} {dC : Nat → ClassId} {dI : Nat → Nat → Nat} {cB cI cJ cZ cS : ClassId} {a b : Nat → Nat} {as : List Value} {r : Int32} {s' : JS} (s : JS) (x2 : Int32) (hB : kX0_fareOf s x2 = some (r, s')) : BlkI l yX0_fareOf wsX0_fareOf ({ frames := 3, cells := 0, slots := 0, locals := 76 }) cX0_fareOf 3 (some .int) (dC, dI) (tysA cB cI cJ cZ cS) as 0 (wJ cB cI cJ cZ cS a b s) [(0, .ref (a 35)), (1, .ref (b 0)), (2, .int x2)] [] (fun x u => x = r ∧ u = (wJ cB cI cJ cZ cS a b s')) := by
  intro p e s0 m below meth c A E H locs ls hP hD hS hl
  obtain ⟨C, hr, hlocks, hA, hK, hN⟩ := id E
  obtain ⟨hx, hb, hml, hown, hts⟩ := id C
  unfold kX0_fareOf at hB
  refine lv_aload_n hx hb dX0_fareOf_0 rfl (lv_at hl 0 rfl) ?_
  refine lv_aload_n hx hb dX0_fareOf_1 rfl (lv_at hl 1 rfl) ?_
  obtain ⟨s1, hc, hB⟩ := bindP_inv hB
  refine q_govF (va_runV (As := [.ref (b 0)]) (rest := []) C (ckX0_clearVars hc _) (cwV 1 hts gX0_fareOf_X0_clearVars rfl rfl rfl (by decide +kernel) ⟨Nat.le_of_ble_eq_true rfl, Nat.le_of_ble_eq_true rfl⟩) (q_preV hK hP (ci := 0) (q0 := 41) rfl rfl rfl (q_preF hN hK hP hD)) rfl rfl hl.1 rfl (lv_room (Nat.le_of_ble_eq_true rfl)) dX0_fareOf_2 ⟨Nat.le_of_ble_eq_true rfl, Nat.le_of_ble_eq_true rfl⟩) hD hS hA (fun w1 H locs hw hP hD hS => ?_)
  subst hw
  refine lv_aload_n hx hb dX0_fareOf_5 rfl (lv_at hl 0 rfl) ?_
  refine lv_aload_n hx hb dX0_fareOf_6 rfl (lv_at hl 1 rfl) ?_
  refine lv_iload_n hx hb dX0_fareOf_7 rfl (lv_at hl 2 rfl) ?_
  obtain ⟨s2, hc, hB⟩ := bindP_inv hB
  refine q_govF (va_runV (As := [.ref (b 0), .int x2]) (rest := []) C (ckX0_setParty hc _) (cwV 2 hts gX0_fareOf_X0_setParty rfl rfl rfl (by decide +kernel) ⟨Nat.le_of_ble_eq_true rfl, Nat.le_of_ble_eq_true rfl⟩) (q_preV hK hP (ci := 0) (q0 := 41) rfl rfl rfl (q_preF hN hK hP hD)) rfl rfl hl.1 rfl (lv_room (Nat.le_of_ble_eq_true rfl)) dX0_fareOf_8 ⟨Nat.le_of_ble_eq_true rfl, Nat.le_of_ble_eq_true rfl⟩) hD hS hA (fun w1 H locs hw hP hD hS => ?_)
  subst hw
  refine lv_bipush (v := 99) hx hb dX0_fareOf_11 (by decide) ?_
  refine lv_aload_n hx hb dX0_fareOf_13 rfl (lv_at hl 0 rfl) ?_
  refine q_get (v := .ref (a 2)) C inX0_fareOf_X0 hK hP 41 rfl rfl 0 (by decide) rfl LX0_fareOf_9 rfl dX0_fareOf_14 ?_
  refine q_getN (v := .ref (a 8)) C hN inX0_fareOf_X5 hK hP 8 rfl rfl 5 (by decide) rfl nwF_X0_15 rfl dX0_fareOf_17 ?_
  refine lv_iconst (v := 1) hx hb dX0_fareOf_20 (by decide) ?_
  obtain ⟨q_, s3, hc, hB⟩ := bindI_inv hB
  refine q_goi (wr := ((wD cI b s2.d))) (va_runVN (As := [.int 1]) (rest := [.int 99]) C (ckX1_valueOf hc _) ⟨va_cnB 1 hts gX0_fareOf_X1_valueOf_n96 rfl rfl rfl (hN _ nwM_X0_96 rfl) (hts _ LX0_fareOf_I_X1) (by decide +kernel) ⟨Nat.le_of_ble_eq_true rfl, Nat.le_of_ble_eq_true rfl⟩, hts _ LX0_fareOf_N_X1_valueOf, hts _ LX0_fareOf_E_X1_valueOf⟩ (q_preV hK hP (ci := 1) (q0 := 14) rfl rfl rfl (q_pre hN hK hP hD [6, 7, 8, 9, 10, 11, 12, 13, 14, 15, 16, 17, 18, 19, 20, 21, 22, 23, 24, 25, 26, 27, 28, 29, 30, 31, 32, 33, 34, 35, 36, 37, 38, 39, 40, 41, 42, 43, 44, 45, 46, 47, 48, 49, 50, 51, 52] rfl (by decide))) rfl rfl hl.1 rfl (lv_room (Nat.le_of_ble_eq_true rfl)) dX0_fareOf_21 ⟨Nat.le_of_ble_eq_true rfl, Nat.le_of_ble_eq_true rfl⟩) hP hD hS hA [6, 7, 8, 9, 10, 11, 12, 13, 14, 15, 16, 17, 18, 19, 20, 21, 22, 23, 24, 25, 26, 27, 28, 29, 30, 31, 32, 33, 34, 35, 36, 37, 38, 39, 40, 41, 42, 43, 44, 45, 46, 47, 48, 49, 50, 51, 52] [0, 1, 2, 3, 4, 5] rfl rfl (by decide) (by decide) (fun r4 w1 H locs hw hP hD hS => ?_)
  obtain ⟨hq_, hw⟩ := hw; subst hw; subst hq_
  obtain ⟨s5, hs6, hB⟩ := letS_inv hB
  have hP : va_P (dC, dI) vwCl (wJ cB cI cJ cZ cS a b s5) H := by subst hs6; exact hP
  have hD : va_D A (wJ cB cI cJ cZ cS a b s5) := by subst hs6; exact hD
  obtain ⟨q_, hc, hB⟩ := bindP_inv hB
  refine q_goi0 (va_runSN (As := [.int 99, .int r4]) (rest := []) C (ckX10_heldTo hc _) ⟨va_cnB 2 hts gX0_fareOf_X10_heldTo_n99 rfl rfl rfl (hN _ nwM_X0_99 rfl) (hts _ LX0_fareOf_I_X10) (by decide +kernel) ⟨Nat.le_of_ble_eq_true rfl, Nat.le_of_ble_eq_true rfl⟩, hts _ LX0_fareOf_S_X10_heldTo, trivial⟩ (q_pre0 hN hK) rfl rfl hl.1 rfl (lv_room (Nat.le_of_ble_eq_true rfl)) dX0_fareOf_24 ⟨Nat.le_of_ble_eq_true rfl, Nat.le_of_ble_eq_true rfl⟩) hP hD hS hA (fun r7 w1 H locs hw hP hS => ?_)
  subst hw
  exact q_iret C hr hlocks hK hP hD hS (Nat.le_of_ble_eq_true rfl) (Nat.le_of_ble_eq_true rfl) dX0_fareOf_27 (by cases hB; exact ⟨rfl, rfl⟩)
theorem ckX0_fareOf {l : Launch} {dC : Nat → ClassId} {dI : Nat → Nat → Nat} {cB cI cJ cZ cS : ClassId} {a b : Nat → Nat} {r : Int32} {s' : JS} {s : JS} {x2 : Int32} (hB : kX0_fareOf s x2 = some (r, s')) : CI l yX0_fareOf wsX0_fareOf ({ frames := 3, cells := 0, slots := 0, locals := 76 }) (dC, dI) (tysA cB cI cJ cZ cS) (wJ cB cI cJ cZ cS a b s) [.ref (a 35), .ref (b 0), .int x2] (fun x u => x = r ∧ u = (wJ cB cI cJ cZ cS a b s')) :=
  CI_of (cc := cX0_fareOf) (maxL := 3) (ret := (some .int)) (by decide) rfl (Nat.le_of_ble_eq_true rfl) (bkX0_fareOf _ _ hB)
theorem LX0_isDaring_9 : Cond.fieldLink RX0 9 "GuessFerry$Crossing" "sound" "LGuessFerry$Sound;" ∈ wsX0_isDaring := by decide +kernel
theorem LX0_isDaring_E_X1_valueOf : Cond.selects RX1 yX1_valueOf yX1_valueOf ∈ wsX0_isDaring := by decide +kernel
theorem LX0_isDaring_I_X1 : Cond.initialized RX1 ∈ wsX0_isDaring := by decide +kernel
theorem LX0_isDaring_N_X1_valueOf : Cond.instanceMethod yX1_valueOf ∈ wsX0_isDaring := by decide +kernel
theorem inX0_isDaring_X0 : ∀ w ∈ u_ws RX0 TX0 2, w ∈ wsX0_isDaring := by decide +kernel
theorem inX0_isDaring_X5 : ∀ w ∈ u_ws RX5 TX5 10, w ∈ wsX0_isDaring := by decide +kernel
set_option maxHeartbeats 4000000 in
set_option maxRecDepth 100000 in
theorem bkX0_isDaring {l : Launch} {dC : Nat → ClassId} {dI : Nat → Nat → Nat} {cB cI cJ cZ cS : ClassId} {a b : Nat → Nat} {as : List Value} {r : Int32} {s' : JS} (s : JS) (x2 : Int32) (hB : kX0_isDaring s x2 = some (r, s')) : BlkI l yX0_isDaring wsX0_isDaring ({ frames := 3, cells := 0, slots := 0, locals := 76 }) cX0_isDaring 3 (some .boolean) (dC, dI) (tysA cB cI cJ cZ cS) as 0 (wJ cB cI cJ cZ cS a b s) [(0, .ref (a 35)), (1, .ref (b 0)), (2, .int x2)] [] (fun x u => x = r ∧ u = (wJ cB cI cJ cZ cS a b s')) := by
  intro p e s0 m below meth c A E H locs ls hP hD hS hl
  obtain ⟨C, hr, hlocks, hA, hK, hN⟩ := id E
  obtain ⟨hx, hb, hml, hown, hts⟩ := id C
  unfold kX0_isDaring at hB
  refine lv_aload_n hx hb dX0_isDaring_0 rfl (lv_at hl 0 rfl) ?_
  refine lv_aload_n hx hb dX0_isDaring_1 rfl (lv_at hl 1 rfl) ?_
  obtain ⟨s1, hc, hB⟩ := bindP_inv hB
  refine q_govF (va_runV (As := [.ref (b 0)]) (rest := []) C (ckX0_clearVars hc _) (cwV 1 hts gX0_isDaring_X0_clearVars rfl rfl rfl (by decide +kernel) ⟨Nat.le_of_ble_eq_true rfl, Nat.le_of_ble_eq_true rfl⟩) (q_preV hK hP (ci := 0) (q0 := 41) rfl rfl rfl (q_preF hN hK hP hD)) rfl rfl hl.1 rfl (lv_room (Nat.le_of_ble_eq_true rfl)) dX0_isDaring_2 ⟨Nat.le_of_ble_eq_true rfl, Nat.le_of_ble_eq_true rfl⟩) hD hS hA (fun w1 H locs hw hP hD hS => ?_)
  subst hw
  refine lv_aload_n hx hb dX0_isDaring_5 rfl (lv_at hl 0 rfl) ?_
  refine lv_aload_n hx hb dX0_isDaring_6 rfl (lv_at hl 1 rfl) ?_
  refine lv_iload_n hx hb dX0_isDaring_7 rfl (lv_at hl 2 rfl) ?_
  obtain ⟨s2, hc, hB⟩ := bindP_inv hB
  refine q_govF (va_runV (As := [.ref (b 0), .int x2]) (rest := []) C (ckX0_setParty hc _) (cwV 2 hts gX0_isDaring_X0_setParty rfl rfl rfl (by decide +kernel) ⟨Nat.le_of_ble_eq_true rfl, Nat.le_of_ble_eq_true rfl⟩) (q_preV hK hP (ci := 0) (q0 := 41) rfl rfl rfl (q_preF hN hK hP hD)) rfl rfl hl.1 rfl (lv_room (Nat.le_of_ble_eq_true rfl)) dX0_isDaring_8 ⟨Nat.le_of_ble_eq_true rfl, Nat.le_of_ble_eq_true rfl⟩) hD hS hA (fun w1 H locs hw hP hD hS => ?_)
  subst hw
  refine lv_aload_n hx hb dX0_isDaring_11 rfl (lv_at hl 0 rfl) ?_
  refine q_get (v := .ref (a 2)) C inX0_isDaring_X0 hK hP 41 rfl rfl 0 (by decide) rfl LX0_isDaring_9 rfl dX0_isDaring_12 ?_
  refine q_getN (v := .ref (a 8)) C hN inX0_isDaring_X5 hK hP 8 rfl rfl 5 (by decide) rfl nwF_X0_15 rfl dX0_isDaring_15 ?_
  refine lv_iconst (v := 2) hx hb dX0_isDaring_18 (by decide) ?_
  obtain ⟨q_, s3, hc, hB⟩ := bindI_inv hB
  refine q_goi (wr := ((wD cI b s2.d))) (va_runVN (As := [.int 2]) (rest := []) C (ckX1_valueOf hc _) ⟨va_cnB 1 hts gX0_isDaring_X1_valueOf_n96 rfl rfl rfl (hN _ nwM_X0_96 rfl) (hts _ LX0_isDaring_I_X1) (by decide +kernel) ⟨Nat.le_of_ble_eq_true rfl, Nat.le_of_ble_eq_true rfl⟩, hts _ LX0_isDaring_N_X1_valueOf, hts _ LX0_isDaring_E_X1_valueOf⟩ (q_preV hK hP (ci := 1) (q0 := 14) rfl rfl rfl (q_pre hN hK hP hD [6, 7, 8, 9, 10, 11, 12, 13, 14, 15, 16, 17, 18, 19, 20, 21, 22, 23, 24, 25, 26, 27, 28, 29, 30, 31, 32, 33, 34, 35, 36, 37, 38, 39, 40, 41, 42, 43, 44, 45, 46, 47, 48, 49, 50, 51, 52] rfl (by decide))) rfl rfl hl.1 rfl (lv_room (Nat.le_of_ble_eq_true rfl)) dX0_isDaring_19 ⟨Nat.le_of_ble_eq_true rfl, Nat.le_of_ble_eq_true rfl⟩) hP hD hS hA [6, 7, 8, 9, 10, 11, 12, 13, 14, 15, 16, 17, 18, 19, 20, 21, 22, 23, 24, 25, 26, 27, 28, 29, 30, 31, 32, 33, 34, 35, 36, 37, 38, 39, 40, 41, 42, 43, 44, 45, 46, 47, 48, 49, 50, 51, 52] [0, 1, 2, 3, 4, 5] rfl rfl (by decide) (by decide) (fun r4 w1 H locs hw hP hD hS => ?_)
  obtain ⟨hq_, hw⟩ := hw; subst hw; subst hq_
  obtain ⟨s5, hs6, hB⟩ := letS_inv hB
  have hP : va_P (dC, dI) vwCl (wJ cB cI cJ cZ cS a b s5) H := by subst hs6; exact hP
  have hD : va_D A (wJ cB cI cJ cZ cS a b s5) := by subst hs6; exact hD
  refine lv_if_le (tgt := 29) hx hb dX0_isDaring_22 (by decide) (fun c7 => ?_) (fun c7 => ?_)
  · have hB := if_p hB c7
    refine lv_iconst (v := 0) hx hb dX0_isDaring_29 (by decide) ?_
    exact q_zret C hr hlocks (Or.inl rfl) hK hP hD hS (Nat.le_of_ble_eq_true rfl) (Nat.le_of_ble_eq_true rfl) dX0_isDaring_30 (by cases hB; exact ⟨rfl, rfl⟩)
  · have hB := if_n hB c7
    refine lv_iconst (v := 1) hx hb dX0_isDaring_25 (by decide) ?_
    refine lv_goto (tgt := 30) hx hb dX0_isDaring_26 (by decide) ?_
    exact q_zret C hr hlocks (Or.inr rfl) hK hP hD hS (Nat.le_of_ble_eq_true rfl) (Nat.le_of_ble_eq_true rfl) dX0_isDaring_30 (by cases hB; exact ⟨rfl, rfl⟩)
theorem ckX0_isDaring {l : Launch} {dC : Nat → ClassId} {dI : Nat → Nat → Nat} {cB cI cJ cZ cS : ClassId} {a b : Nat → Nat} {r : Int32} {s' : JS} {s : JS} {x2 : Int32} (hB : kX0_isDaring s x2 = some (r, s')) : CI l yX0_isDaring wsX0_isDaring ({ frames := 3, cells := 0, slots := 0, locals := 76 }) (dC, dI) (tysA cB cI cJ cZ cS) (wJ cB cI cJ cZ cS a b s) [.ref (a 35), .ref (b 0), .int x2] (fun x u => x = r ∧ u = (wJ cB cI cJ cZ cS a b s')) :=
  CI_of (cc := cX0_isDaring) (maxL := 3) (ret := (some .boolean)) (by decide) rfl (Nat.le_of_ble_eq_true rfl) (bkX0_isDaring _ _ hB)
theorem LX0_shiftsOf_9 : Cond.fieldLink RX0 9 "GuessFerry$Crossing" "sound" "LGuessFerry$Sound;" ∈ wsX0_shiftsOf := by decide +kernel
theorem LX0_shiftsOf_E_X1_valueOf : Cond.selects RX1 yX1_valueOf yX1_valueOf ∈ wsX0_shiftsOf := by decide +kernel
theorem LX0_shiftsOf_I_X1 : Cond.initialized RX1 ∈ wsX0_shiftsOf := by decide +kernel
theorem LX0_shiftsOf_I_X10 : Cond.initialized RX10 ∈ wsX0_shiftsOf := by decide +kernel
theorem LX0_shiftsOf_N_X1_valueOf : Cond.instanceMethod yX1_valueOf ∈ wsX0_shiftsOf := by decide +kernel
theorem LX0_shiftsOf_S_X10_heldTo : Cond.static yX10_heldTo ∈ wsX0_shiftsOf := by decide +kernel
theorem inX0_shiftsOf_X0 : ∀ w ∈ u_ws RX0 TX0 2, w ∈ wsX0_shiftsOf := by decide +kernel
theorem inX0_shiftsOf_X5 : ∀ w ∈ u_ws RX5 TX5 10, w ∈ wsX0_shiftsOf := by decide +kernel
set_option maxHeartbeats 4000000 in
set_option maxRecDepth 100000 in
theorem bkX0_shiftsOf {l : Launch} {dC : Nat → ClassId} {dI : Nat → Nat → Nat} {cB cI cJ cZ cS : ClassId} {a b : Nat → Nat} {as : List Value} {r : Int32} {s' : JS} (s : JS) (x2 : Int32) (hB : kX0_shiftsOf s x2 = some (r, s')) : BlkI l yX0_shiftsOf wsX0_shiftsOf ({ frames := 3, cells := 0, slots := 0, locals := 76 }) cX0_shiftsOf 3 (some .int) (dC, dI) (tysA cB cI cJ cZ cS) as 0 (wJ cB cI cJ cZ cS a b s) [(0, .ref (a 35)), (1, .ref (b 0)), (2, .int x2)] [] (fun x u => x = r ∧ u = (wJ cB cI cJ cZ cS a b s')) := by
  intro p e s0 m below meth c A E H locs ls hP hD hS hl
  obtain ⟨C, hr, hlocks, hA, hK, hN⟩ := id E
  obtain ⟨hx, hb, hml, hown, hts⟩ := id C
  unfold kX0_shiftsOf at hB
  refine lv_aload_n hx hb dX0_shiftsOf_0 rfl (lv_at hl 0 rfl) ?_
  refine lv_aload_n hx hb dX0_shiftsOf_1 rfl (lv_at hl 1 rfl) ?_
  obtain ⟨s1, hc, hB⟩ := bindP_inv hB
  refine q_govF (va_runV (As := [.ref (b 0)]) (rest := []) C (ckX0_clearVars hc _) (cwV 1 hts gX0_shiftsOf_X0_clearVars rfl rfl rfl (by decide +kernel) ⟨Nat.le_of_ble_eq_true rfl, Nat.le_of_ble_eq_true rfl⟩) (q_preV hK hP (ci := 0) (q0 := 41) rfl rfl rfl (q_preF hN hK hP hD)) rfl rfl hl.1 rfl (lv_room (Nat.le_of_ble_eq_true rfl)) dX0_shiftsOf_2 ⟨Nat.le_of_ble_eq_true rfl, Nat.le_of_ble_eq_true rfl⟩) hD hS hA (fun w1 H locs hw hP hD hS => ?_)
  subst hw
  refine lv_aload_n hx hb dX0_shiftsOf_5 rfl (lv_at hl 0 rfl) ?_
  refine lv_aload_n hx hb dX0_shiftsOf_6 rfl (lv_at hl 1 rfl) ?_
  refine lv_iload_n hx hb dX0_shiftsOf_7 rfl (lv_at hl 2 rfl) ?_
  obtain ⟨s2, hc, hB⟩ := bindP_inv hB
  refine q_govF (va_runV (As := [.ref (b 0), .int x2]) (rest := []) C (ckX0_setWave hc _) (cwV 2 hts gX0_shiftsOf_X0_setWave rfl rfl rfl (by decide +kernel) ⟨Nat.le_of_ble_eq_true rfl, Nat.le_of_ble_eq_true rfl⟩) (q_preV hK hP (ci := 0) (q0 := 41) rfl rfl rfl (q_preF hN hK hP hD)) rfl rfl hl.1 rfl (lv_room (Nat.le_of_ble_eq_true rfl)) dX0_shiftsOf_8 ⟨Nat.le_of_ble_eq_true rfl, Nat.le_of_ble_eq_true rfl⟩) hD hS hA (fun w1 H locs hw hP hD hS => ?_)
  subst hw
  refine lv_bipush (v := 100) hx hb dX0_shiftsOf_11 (by decide) ?_
  refine lv_aload_n hx hb dX0_shiftsOf_13 rfl (lv_at hl 0 rfl) ?_
  refine q_get (v := .ref (a 2)) C inX0_shiftsOf_X0 hK hP 41 rfl rfl 0 (by decide) rfl LX0_shiftsOf_9 rfl dX0_shiftsOf_14 ?_
  refine q_getN (v := .ref (a 8)) C hN inX0_shiftsOf_X5 hK hP 8 rfl rfl 5 (by decide) rfl nwF_X0_15 rfl dX0_shiftsOf_17 ?_
  refine lv_iconst (v := 3) hx hb dX0_shiftsOf_20 (by decide) ?_
  obtain ⟨q_, s3, hc, hB⟩ := bindI_inv hB
  refine q_goi (wr := ((wD cI b s2.d))) (va_runVN (As := [.int 3]) (rest := [.int 100]) C (ckX1_valueOf hc _) ⟨va_cnB 1 hts gX0_shiftsOf_X1_valueOf_n96 rfl rfl rfl (hN _ nwM_X0_96 rfl) (hts _ LX0_shiftsOf_I_X1) (by decide +kernel) ⟨Nat.le_of_ble_eq_true rfl, Nat.le_of_ble_eq_true rfl⟩, hts _ LX0_shiftsOf_N_X1_valueOf, hts _ LX0_shiftsOf_E_X1_valueOf⟩ (q_preV hK hP (ci := 1) (q0 := 14) rfl rfl rfl (q_pre hN hK hP hD [6, 7, 8, 9, 10, 11, 12, 13, 14, 15, 16, 17, 18, 19, 20, 21, 22, 23, 24, 25, 26, 27, 28, 29, 30, 31, 32, 33, 34, 35, 36, 37, 38, 39, 40, 41, 42, 43, 44, 45, 46, 47, 48, 49, 50, 51, 52] rfl (by decide))) rfl rfl hl.1 rfl (lv_room (Nat.le_of_ble_eq_true rfl)) dX0_shiftsOf_21 ⟨Nat.le_of_ble_eq_true rfl, Nat.le_of_ble_eq_true rfl⟩) hP hD hS hA [6, 7, 8, 9, 10, 11, 12, 13, 14, 15, 16, 17, 18, 19, 20, 21, 22, 23, 24, 25, 26, 27, 28, 29, 30, 31, 32, 33, 34, 35, 36, 37, 38, 39, 40, 41, 42, 43, 44, 45, 46, 47, 48, 49, 50, 51, 52] [0, 1, 2, 3, 4, 5] rfl rfl (by decide) (by decide) (fun r4 w1 H locs hw hP hD hS => ?_)
  obtain ⟨hq_, hw⟩ := hw; subst hw; subst hq_
  obtain ⟨s5, hs6, hB⟩ := letS_inv hB
  have hP : va_P (dC, dI) vwCl (wJ cB cI cJ cZ cS a b s5) H := by subst hs6; exact hP
  have hD : va_D A (wJ cB cI cJ cZ cS a b s5) := by subst hs6; exact hD
  obtain ⟨q_, hc, hB⟩ := bindP_inv hB
  refine q_goi0 (va_runSN (As := [.int 100, .int r4]) (rest := []) C (ckX10_heldTo hc _) ⟨va_cnB 2 hts gX0_shiftsOf_X10_heldTo_n99 rfl rfl rfl (hN _ nwM_X0_99 rfl) (hts _ LX0_shiftsOf_I_X10) (by decide +kernel) ⟨Nat.le_of_ble_eq_true rfl, Nat.le_of_ble_eq_true rfl⟩, hts _ LX0_shiftsOf_S_X10_heldTo, trivial⟩ (q_pre0 hN hK) rfl rfl hl.1 rfl (lv_room (Nat.le_of_ble_eq_true rfl)) dX0_shiftsOf_24 ⟨Nat.le_of_ble_eq_true rfl, Nat.le_of_ble_eq_true rfl⟩) hP hD hS hA (fun r7 w1 H locs hw hP hS => ?_)
  subst hw
  exact q_iret C hr hlocks hK hP hD hS (Nat.le_of_ble_eq_true rfl) (Nat.le_of_ble_eq_true rfl) dX0_shiftsOf_27 (by cases hB; exact ⟨rfl, rfl⟩)
theorem ckX0_shiftsOf {l : Launch} {dC : Nat → ClassId} {dI : Nat → Nat → Nat} {cB cI cJ cZ cS : ClassId} {a b : Nat → Nat} {r : Int32} {s' : JS} {s : JS} {x2 : Int32} (hB : kX0_shiftsOf s x2 = some (r, s')) : CI l yX0_shiftsOf wsX0_shiftsOf ({ frames := 3, cells := 0, slots := 0, locals := 76 }) (dC, dI) (tysA cB cI cJ cZ cS) (wJ cB cI cJ cZ cS a b s) [.ref (a 35), .ref (b 0), .int x2] (fun x u => x = r ∧ u = (wJ cB cI cJ cZ cS a b s')) :=
  CI_of (cc := cX0_shiftsOf) (maxL := 3) (ret := (some .int)) (by decide) rfl (Nat.le_of_ble_eq_true rfl) (bkX0_shiftsOf _ _ hB)
theorem LX0_sendBy_9 : Cond.fieldLink RX0 9 "GuessFerry$Crossing" "sound" "LGuessFerry$Sound;" ∈ wsX0_sendBy := by decide +kernel
theorem LX0_sendBy_I_X10 : Cond.initialized RX10 ∈ wsX0_sendBy := by decide +kernel
theorem LX0_sendBy_S_X10_thingIn : Cond.static yX10_thingIn ∈ wsX0_sendBy := by decide +kernel
theorem inX0_sendBy_X0 : ∀ w ∈ u_ws RX0 TX0 2, w ∈ wsX0_sendBy := by decide +kernel
theorem inX0_sendBy_X5 : ∀ w ∈ u_ws RX5 TX5 10, w ∈ wsX0_sendBy := by decide +kernel
theorem inX0_sendBy_X6 : ∀ w ∈ u_ws RX6 TX6 7, w ∈ wsX0_sendBy := by decide +kernel
set_option maxHeartbeats 4000000 in
set_option maxRecDepth 100000 in
theorem bkX0_sendBy_119 {l : Launch} {dC : Nat → ClassId} {dI : Nat → Nat → Nat} {cB cI cJ cZ cS : ClassId} {a b : Nat → Nat} {as : List Value} {r : Int32} {s' : JS} (s : JS) (x2 : Int32) (x4 : Int32) (x5 : Int32) (hB : kX0_sendBy_119 s x2 x4 x5 = some (r, s')) : BlkI l yX0_sendBy wsX0_sendBy ({ frames := 5, cells := 0, slots := 0, locals := 124 }) cX0_sendBy 8 (some .int) (dC, dI) (tysA cB cI cJ cZ cS) as 119 (wJ cB cI cJ cZ cS a b s) [(1, .ref (b 0)), (2, .int x2), (4, .int x4), (5, .int x5)] [] (fun x u => x = r ∧ u = (wJ cB cI cJ cZ cS a b s')) := by
  intro p e s0 m below meth c A E H locs ls hP hD hS hl
  obtain ⟨C, hr, hlocks, hA, hK, hN⟩ := id E
  obtain ⟨hx, hb, hml, hown, hts⟩ := id C
  unfold kX0_sendBy_119 at hB
  refine lv_aload_n hx hb dX0_sendBy_119 rfl (lv_at hl 0 rfl) ?_
  refine q_getN (v := .ref (b 4)) C hN inX0_sendBy_X6 hK hP 0 rfl rfl 3 (by decide) rfl nwF_X0_122 rfl dX0_sendBy_120 ?_
  refine lv_iload_n hx hb dX0_sendBy_123 rfl (lv_at hl 1 rfl) ?_
  refine lv_iload hx hb dX0_sendBy_124 (lv_at hl 2 rfl) ?_
  obtain ⟨g1, hB⟩ := guard_inv hB
  obtain ⟨s2, hs3, hB⟩ := letS_inv hB
  refine q_iast (f2 := (upd (s.d.f 3) (Int32.toNatClampNeg x2) x4)) (w2 := (wJ cB cI cJ cZ cS a b s2)) C hK hP hD hS 4 1 rfl rfl (vpb_in g1) dX0_sendBy_126 rfl (by subst hs3; rfl) (fun H locs hP hD hS => ?_)
  refine lv_aload_n hx hb dX0_sendBy_127 rfl (lv_at hl 0 rfl) ?_
  refine q_getN (v := .ref (b 5)) C hN inX0_sendBy_X6 hK hP 0 rfl rfl 4 (by decide) rfl nwF_X0_68 rfl dX0_sendBy_128 ?_
  refine lv_iload_n hx hb dX0_sendBy_131 rfl (lv_at hl 1 rfl) ?_
  refine lv_dup2_11 hx hb dX0_sendBy_132 rfl rfl ?_
  obtain ⟨g4, hB⟩ := guard_inv hB
  refine q_iald (x := ((s2.d.f 4) (Int32.toNatClampNeg x2))) C hK hP 5 1 rfl rfl (vpb_in g4) dX0_sendBy_133 rfl ?_
  refine lv_iconst (v := 1) hx hb dX0_sendBy_134 (by decide) ?_
  refine lv_iadd hx hb dX0_sendBy_135 ?_
  obtain ⟨g5, hB⟩ := guard_inv hB
  obtain ⟨s6, hs7, hB⟩ := letS_inv hB
  refine q_iast (f2 := (upd (s2.d.f 4) (Int32.toNatClampNeg x2) (((s2.d.f 4) (Int32.toNatClampNeg x2)) + 1))) (w2 := (wJ cB cI cJ cZ cS a b s6)) C hK hP hD hS 5 1 rfl rfl (vpb_in g5) dX0_sendBy_136 rfl (by subst hs7; rfl) (fun H locs hP hD hS => ?_)
  refine lv_iload hx hb dX0_sendBy_137 (lv_at hl 3 rfl) ?_
  exact q_iret C hr hlocks hK hP hD hS (Nat.le_of_ble_eq_true rfl) (Nat.le_of_ble_eq_true rfl) dX0_sendBy_139 (by cases hB; exact ⟨rfl, rfl⟩)
set_option maxHeartbeats 4000000 in
set_option maxRecDepth 100000 in
theorem bkX0_sendBy_113 {l : Launch} {dC : Nat → ClassId} {dI : Nat → Nat → Nat} {cB cI cJ cZ cS : ClassId} {a b : Nat → Nat} {as : List Value} {r : Int32} {s' : JS} {k24 : JS → Int32 → Int32 → Int32 → Int32 → Int32 → Option (Int32 × JS)} (hk24 : ∀ (s : JS) (x2 : Int32) (x3 : Int32) (x4 : Int32) (x5 : Int32) (x6 : Int32), k24 s x2 x3 x4 x5 x6 = some (r, s') → BlkI l yX0_sendBy wsX0_sendBy ({ frames := 5, cells := 0, slots := 0, locals := 124 }) cX0_sendBy 8 (some .int) (dC, dI) (tysA cB cI cJ cZ cS) as 24 (wJ cB cI cJ cZ cS a b s) [(0, .ref (a 35)), (1, .ref (b 0)), (2, .int x2), (3, .int x3), (4, .int x4), (5, .int x5), (6, .int x6)] [] (fun x u => x = r ∧ u = (wJ cB cI cJ cZ cS a b s'))) (s : JS) (x2 : Int32) (x3 : Int32) (x4 : Int32) (x5 : Int32) (x6 : Int32) (hB : kX0_sendBy_113 k24 s x2 x3 x4 x5 x6 = some (r, s')) : BlkI l yX0_sendBy wsX0_sendBy ({ frames := 5, cells := 0, slots := 0, locals := 124 }) cX0_sendBy 8 (some .int) (dC, dI) (tysA cB cI cJ cZ cS) as 113 (wJ cB cI cJ cZ cS a b s) [(0, .ref (a 35)), (1, .ref (b 0)), (2, .int x2), (3, .int x3), (4, .int x4), (5, .int x5), (6, .int x6)] [] (fun x u => x = r ∧ u = (wJ cB cI cJ cZ cS a b s')) := by
  intro p e s0 m below meth c A E H locs ls hP hD hS hl
  obtain ⟨C, hr, hlocks, hA, hK, hN⟩ := id E
  obtain ⟨hx, hb, hml, hown, hts⟩ := id C
  unfold kX0_sendBy_113 at hB
  refine lv_iinc (v := (x6 + 1)) (lv' := [(6, .int (x6 + 1)), (0, .ref (a 35)), (1, .ref (b 0)), (2, .int x2), (3, .int x3), (4, .int x4), (5, .int x5)]) hx hb dX0_sendBy_113 hl (k := 6) rfl (rfl) (by decide) rfl (fun ls hl => ?_)
  refine lv_goto (tgt := 24) hx hb dX0_sendBy_116 (by decide) ?_
  exact hk24 _ _ _ _ _ _ hB p e s0 m below meth c A E H locs ls hP hD hS (lv_sub hl [1, 2, 3, 4, 5, 6, 0] rfl)
set_option maxHeartbeats 4000000 in
set_option maxRecDepth 100000 in
theorem bkX0_sendBy_24 {l : Launch} {dC : Nat → ClassId} {dI : Nat → Nat → Nat} {cB cI cJ cZ cS : ClassId} {a b : Nat → Nat} {as : List Value} {r : Int32} {s' : JS} {k24 : JS → Int32 → Int32 → Int32 → Int32 → Int32 → Option (Int32 × JS)} (hk24 : ∀ (s : JS) (x2 : Int32) (x3 : Int32) (x4 : Int32) (x5 : Int32) (x6 : Int32), k24 s x2 x3 x4 x5 x6 = some (r, s') → BlkI l yX0_sendBy wsX0_sendBy ({ frames := 5, cells := 0, slots := 0, locals := 124 }) cX0_sendBy 8 (some .int) (dC, dI) (tysA cB cI cJ cZ cS) as 24 (wJ cB cI cJ cZ cS a b s) [(0, .ref (a 35)), (1, .ref (b 0)), (2, .int x2), (3, .int x3), (4, .int x4), (5, .int x5), (6, .int x6)] [] (fun x u => x = r ∧ u = (wJ cB cI cJ cZ cS a b s'))) (s : JS) (x2 : Int32) (x3 : Int32) (x4 : Int32) (x5 : Int32) (x6 : Int32) (hB : kX0_sendBy_24 k24 s x2 x3 x4 x5 x6 = some (r, s')) : BlkI l yX0_sendBy wsX0_sendBy ({ frames := 5, cells := 0, slots := 0, locals := 124 }) cX0_sendBy 8 (some .int) (dC, dI) (tysA cB cI cJ cZ cS) as 24 (wJ cB cI cJ cZ cS a b s) [(0, .ref (a 35)), (1, .ref (b 0)), (2, .int x2), (3, .int x3), (4, .int x4), (5, .int x5), (6, .int x6)] [] (fun x u => x = r ∧ u = (wJ cB cI cJ cZ cS a b s')) := by
  intro p e s0 m below meth c A E H locs ls hP hD hS hl
  obtain ⟨C, hr, hlocks, hA, hK, hN⟩ := id E
  obtain ⟨hx, hb, hml, hown, hts⟩ := id C
  unfold kX0_sendBy_24 at hB
  refine lv_iload hx hb dX0_sendBy_24 (lv_at hl 6 rfl) ?_
  refine lv_aload_n hx hb dX0_sendBy_26 rfl (lv_at hl 0 rfl) ?_
  refine q_get (v := .ref (a 2)) C inX0_sendBy_X0 hK hP 41 rfl rfl 0 (by decide) rfl LX0_sendBy_9 rfl dX0_sendBy_27 ?_
  refine q_getN (v := .int (s.k.v 1)) C hN inX0_sendBy_X5 hK hP 8 rfl rfl 6 (by decide) rfl nwF_X0_50 rfl dX0_sendBy_30 ?_
  refine lv_icmp_ge (tgt := 119) hx hb dX0_sendBy_33 (by decide) (fun c1 => ?_) (fun c1 => ?_)
  · have hB := if_p hB c1
    exact bkX0_sendBy_119 _ _ _ _ hB p e s0 m below meth c A E H locs ls hP hD hS (lv_sub hl [1, 2, 4, 5] rfl)
  · have hB := if_n hB c1
    refine lv_iload hx hb dX0_sendBy_36 (lv_at hl 4 rfl) ?_
    refine lv_iconst (v := 2) hx hb dX0_sendBy_38 (by decide) ?_
    refine lv_icmp_ne (tgt := 119) hx hb dX0_sendBy_39 (by decide) (fun c2 => ?_) (fun c2 => ?_)
    · have hB := if_n hB c2
      exact bkX0_sendBy_119 _ _ _ _ hB p e s0 m below meth c A E H locs ls hP hD hS (lv_sub hl [1, 2, 4, 5] rfl)
    · have hB := if_p hB c2
      refine lv_iload_n hx hb dX0_sendBy_42 rfl (lv_at hl 3 rfl) ?_
      refine lv_iload hx hb dX0_sendBy_43 (lv_at hl 6 rfl) ?_
      obtain ⟨q_, hc, hB⟩ := bindP_inv hB
      refine q_goi0 (va_runSN (As := [.int x3, .int x6]) (rest := []) C (ckX10_thingIn hc _) ⟨va_cnB 2 hts gX0_sendBy_X10_thingIn_n112 rfl rfl rfl (hN _ nwM_X0_112 rfl) (hts _ LX0_sendBy_I_X10) (by decide +kernel) ⟨Nat.le_of_ble_eq_true rfl, Nat.le_of_ble_eq_true rfl⟩, hts _ LX0_sendBy_S_X10_thingIn, trivial⟩ (q_pre0 hN hK) rfl rfl hl.1 rfl (lv_room (Nat.le_of_ble_eq_true rfl)) dX0_sendBy_45 ⟨Nat.le_of_ble_eq_true rfl, Nat.le_of_ble_eq_true rfl⟩) hP hD hS hA (fun r3 w1 H locs hw hP hS => ?_)
      subst hw
      refine lv_istore (lv' := [(7, .int r3), (0, .ref (a 35)), (1, .ref (b 0)), (2, .int x2), (3, .int x3), (4, .int x4), (5, .int x5), (6, .int x6)]) hx hb dX0_sendBy_48 hl (by decide) rfl (fun ls hl => ?_)
      refine lv_aload_n hx hb dX0_sendBy_50 rfl (lv_at hl 1 rfl) ?_
      refine lv_aload_n hx hb dX0_sendBy_51 rfl (lv_at hl 2 rfl) ?_
      refine lv_iload_n hx hb dX0_sendBy_52 rfl (lv_at hl 3 rfl) ?_
      refine lv_iload hx hb dX0_sendBy_53 (lv_at hl 7 rfl) ?_
      refine lv_iload hx hb dX0_sendBy_55 (lv_at hl 0 rfl) ?_
      obtain ⟨q_, s4, hc, hB⟩ := bindI_inv hB
      refine q_goiF (va_runV (As := [.ref (b 0), .int x2, .int x6, .int r3]) (rest := []) C (ckX0_isBearing hc _) (cwV 4 hts gX0_sendBy_X0_isBearing rfl rfl rfl (by decide +kernel) ⟨Nat.le_of_ble_eq_true rfl, Nat.le_of_ble_eq_true rfl⟩) (q_preV hK hP (ci := 0) (q0 := 41) rfl rfl rfl (q_preF hN hK hP hD)) rfl rfl hl.1 rfl (lv_room (Nat.le_of_ble_eq_true rfl)) dX0_sendBy_57 ⟨Nat.le_of_ble_eq_true rfl, Nat.le_of_ble_eq_true rfl⟩) hD hS hA (fun r5 w1 H locs hw hP hD hS => ?_)
      obtain ⟨hq_, hw⟩ := hw; subst hw; subst hq_
      refine lv_if_ne (tgt := 69) hx hb dX0_sendBy_60 (by decide) (fun c6 => ?_) (fun c6 => ?_)
      · have hB := if_n hB c6
        refine lv_iload hx hb dX0_sendBy_69 (lv_at hl 0 rfl) ?_
        refine lv_aload_n hx hb dX0_sendBy_71 rfl (lv_at hl 1 rfl) ?_
        refine lv_aload_n hx hb dX0_sendBy_72 rfl (lv_at hl 2 rfl) ?_
        refine lv_iload hx hb dX0_sendBy_73 (lv_at hl 7 rfl) ?_
        obtain ⟨q_, s7, hc, hB⟩ := bindI_inv hB
        refine q_goiF (va_runV (As := [.ref (b 0), .int x6]) (rest := [.int r3]) C (ckX0_thereNow hc _) (cwV 2 hts gX0_sendBy_X0_thereNow rfl rfl rfl (by decide +kernel) ⟨Nat.le_of_ble_eq_true rfl, Nat.le_of_ble_eq_true rfl⟩) (q_preV hK hP (ci := 0) (q0 := 41) rfl rfl rfl (q_preF hN hK hP hD)) rfl rfl hl.1 rfl (lv_room (Nat.le_of_ble_eq_true rfl)) dX0_sendBy_75 ⟨Nat.le_of_ble_eq_true rfl, Nat.le_of_ble_eq_true rfl⟩) hD hS hA (fun r8 w1 H locs hw hP hD hS => ?_)
        obtain ⟨hq_, hw⟩ := hw; subst hw; subst hq_
        refine lv_icmp_eq (tgt := 101) hx hb dX0_sendBy_78 (by decide) (fun c9 => ?_) (fun c9 => ?_)
        · have hB := if_p hB c9
          refine lv_aload_n hx hb dX0_sendBy_101 rfl (lv_at hl 2 rfl) ?_
          refine q_getN (v := .ref (b 1)) C hN inX0_sendBy_X6 hK hP 0 rfl rfl 0 (by decide) rfl nwF_X0_28 rfl dX0_sendBy_102 ?_
          refine lv_iload hx hb dX0_sendBy_105 (lv_at hl 7 rfl) ?_
          refine lv_iload hx hb dX0_sendBy_107 (lv_at hl 0 rfl) ?_
          obtain ⟨g10, hB⟩ := guard_inv hB
          obtain ⟨s11, hs12, hB⟩ := letS_inv hB
          refine q_iast (f2 := (upd (s7.d.f 0) (Int32.toNatClampNeg x6) r3)) (w2 := (wJ cB cI cJ cZ cS a b s11)) C hK hP hD hS 1 1 rfl rfl (vpb_in g10) dX0_sendBy_109 rfl (by subst hs12; rfl) (fun H locs hP hD hS => ?_)
          refine lv_iinc (v := (x5 + 1)) (lv' := [(5, .int (x5 + 1)), (7, .int r3), (0, .ref (a 35)), (1, .ref (b 0)), (2, .int x2), (3, .int x3), (4, .int x4), (6, .int x6)]) hx hb dX0_sendBy_110 hl (k := 6) rfl (rfl) (by decide) rfl (fun ls hl => ?_)
          exact bkX0_sendBy_113 (hk24) _ _ _ _ _ _ hB p e s0 m below meth c A E H locs ls hP hD hS (lv_sub hl [2, 3, 4, 5, 6, 0, 7] rfl)
        · have hB := if_n hB c9
          refine lv_aload_n hx hb dX0_sendBy_81 rfl (lv_at hl 2 rfl) ?_
          refine q_getN (v := .ref (b 2)) C hN inX0_sendBy_X6 hK hP 0 rfl rfl 1 (by decide) rfl nwF_X0_36 rfl dX0_sendBy_82 ?_
          refine lv_iload hx hb dX0_sendBy_85 (lv_at hl 7 rfl) ?_
          refine lv_dup2_11 hx hb dX0_sendBy_87 rfl rfl ?_
          obtain ⟨g13, hB⟩ := guard_inv hB
          refine q_iald (x := ((s7.d.f 1) (Int32.toNatClampNeg x6))) C hK hP 2 1 rfl rfl (vpb_in g13) dX0_sendBy_88 rfl ?_
          refine lv_iconst (v := 1) hx hb dX0_sendBy_89 (by decide) ?_
          refine lv_iload hx hb dX0_sendBy_90 (lv_at hl 0 rfl) ?_
          refine lv_ishl hx hb dX0_sendBy_92 ?_
          refine lv_ior hx hb dX0_sendBy_93 ?_
          obtain ⟨g14, hB⟩ := guard_inv hB
          obtain ⟨s15, hs16, hB⟩ := letS_inv hB
          refine q_iast (f2 := (upd (s7.d.f 1) (Int32.toNatClampNeg x6) (((s7.d.f 1) (Int32.toNatClampNeg x6)) ||| (1 <<< (r3 &&& 31))))) (w2 := (wJ cB cI cJ cZ cS a b s15)) C hK hP hD hS 2 1 rfl rfl (vpb_in g14) dX0_sendBy_94 rfl (by subst hs16; rfl) (fun H locs hP hD hS => ?_)
          refine lv_iconst (v := 0) hx hb dX0_sendBy_95 (by decide) ?_
          refine lv_istore (lv' := [(4, .int 0), (7, .int r3), (0, .ref (a 35)), (1, .ref (b 0)), (2, .int x2), (3, .int x3), (5, .int x5), (6, .int x6)]) hx hb dX0_sendBy_96 hl (by decide) rfl (fun ls hl => ?_)
          refine lv_goto (tgt := 113) hx hb dX0_sendBy_98 (by decide) ?_
          exact bkX0_sendBy_113 (hk24) _ _ _ _ _ _ hB p e s0 m below meth c A E H locs ls hP hD hS (lv_sub hl [2, 3, 4, 5, 0, 6, 7] rfl)
      · have hB := if_p hB c6
        refine lv_iconst (v := 1) hx hb dX0_sendBy_63 (by decide) ?_
        refine lv_istore (lv' := [(4, .int 1), (7, .int r3), (0, .ref (a 35)), (1, .ref (b 0)), (2, .int x2), (3, .int x3), (5, .int x5), (6, .int x6)]) hx hb dX0_sendBy_64 hl (by decide) rfl (fun ls hl => ?_)
        refine lv_goto (tgt := 113) hx hb dX0_sendBy_66 (by decide) ?_
        exact bkX0_sendBy_113 (hk24) _ _ _ _ _ _ hB p e s0 m below meth c A E H locs ls hP hD hS (lv_sub hl [2, 3, 4, 5, 0, 6, 7] rfl)
theorem bkX0_sendBy_24L {l : Launch} {dC : Nat → ClassId} {dI : Nat → Nat → Nat} {cB cI cJ cZ cS : ClassId} {a b : Nat → Nat} {as : List Value} {r : Int32} {s' : JS} : ∀ (n : Nat) (s : JS) (x2 : Int32) (x3 : Int32) (x4 : Int32) (x5 : Int32) (x6 : Int32), kX0_sendBy_24L n s x2 x3 x4 x5 x6 = some (r, s') → BlkI l yX0_sendBy wsX0_sendBy ({ frames := 5, cells := 0, slots := 0, locals := 124 }) cX0_sendBy 8 (some .int) (dC, dI) (tysA cB cI cJ cZ cS) as 24 (wJ cB cI cJ cZ cS a b s) [(0, .ref (a 35)), (1, .ref (b 0)), (2, .int x2), (3, .int x3), (4, .int x4), (5, .int x5), (6, .int x6)] [] (fun x u => x = r ∧ u = (wJ cB cI cJ cZ cS a b s')) := by
  intro n
  induction n with
  | zero => intro s x2 x3 x4 x5 x6 hB; exact none_ne hB
  | succ n ih => intro s x2 x3 x4 x5 x6 hB; exact bkX0_sendBy_24 ih _ _ _ _ _ _ hB
set_option maxHeartbeats 4000000 in
set_option maxRecDepth 100000 in
theorem bkX0_sendBy {l : Launch} {dC : Nat → ClassId} {dI : Nat → Nat → Nat} {cB cI cJ cZ cS : ClassId} {a b : Nat → Nat} {as : List Value} {r : Int32} {s' : JS} (s : JS) (x2 : Int32) (x3 : Int32) (hB : kX0_sendBy s x2 x3 = some (r, s')) : BlkI l yX0_sendBy wsX0_sendBy ({ frames := 5, cells := 0, slots := 0, locals := 124 }) cX0_sendBy 8 (some .int) (dC, dI) (tysA cB cI cJ cZ cS) as 0 (wJ cB cI cJ cZ cS a b s) [(0, .ref (a 35)), (1, .ref (b 0)), (2, .int x2), (3, .int x3)] [] (fun x u => x = r ∧ u = (wJ cB cI cJ cZ cS a b s')) := by
  intro p e s0 m below meth c A E H locs ls hP hD hS hl
  obtain ⟨C, hr, hlocks, hA, hK, hN⟩ := id E
  obtain ⟨hx, hb, hml, hown, hts⟩ := id C
  unfold kX0_sendBy at hB
  refine lv_aload_n hx hb dX0_sendBy_0 rfl (lv_at hl 1 rfl) ?_
  refine lv_dup hx hb dX0_sendBy_1 rfl ?_
  refine q_getN (v := .int (s.d.v 6)) C hN inX0_sendBy_X6 hK hP 0 rfl rfl 6 (by decide) rfl nwF_X0_106 rfl dX0_sendBy_2 ?_
  refine lv_aload_n hx hb dX0_sendBy_5 rfl (lv_at hl 0 rfl) ?_
  refine lv_aload_n hx hb dX0_sendBy_6 rfl (lv_at hl 1 rfl) ?_
  refine lv_iload_n hx hb dX0_sendBy_7 rfl (lv_at hl 2 rfl) ?_
  obtain ⟨q_, s1, hc, hB⟩ := bindI_inv hB
  refine q_goiF (va_runV (As := [.ref (b 0), .int x2]) (rest := [.int (s.d.v 6), .ref (b 0)]) C (ckX0_fareOf hc _) (cwV 2 hts gX0_sendBy_X0_fareOf rfl rfl rfl (by decide +kernel) ⟨Nat.le_of_ble_eq_true rfl, Nat.le_of_ble_eq_true rfl⟩) (q_preV hK hP (ci := 0) (q0 := 41) rfl rfl rfl (q_preF hN hK hP hD)) rfl rfl hl.1 rfl (lv_room (Nat.le_of_ble_eq_true rfl)) dX0_sendBy_8 ⟨Nat.le_of_ble_eq_true rfl, Nat.le_of_ble_eq_true rfl⟩) hD hS hA (fun r2 w1 H locs hw hP hD hS => ?_)
  obtain ⟨hq_, hw⟩ := hw; subst hw; subst hq_
  refine lv_iadd hx hb dX0_sendBy_11 ?_
  obtain ⟨s3, hs4, hB⟩ := letS_inv hB
  refine q_putN (ty := .int) (w2 := (wJ cB cI cJ cZ cS a b s3)) tyX6 tyX6_ok nmX6 C hN inX0_sendBy_X6 hK hP hD hS 0 rfl rfl 6 (by decide) rfl nwF_X0_106 rfl (by decide +kernel) (rfl) rfl (Nat.le_of_ble_eq_true rfl) dX0_sendBy_12 (by subst hs4; rfl) (fun H locs hP hD hS => ?_)
  refine lv_iconst (v := 2) hx hb dX0_sendBy_15 (by decide) ?_
  refine lv_istore (lv' := [(4, .int 2), (0, .ref (a 35)), (1, .ref (b 0)), (2, .int x2), (3, .int x3)]) hx hb dX0_sendBy_16 hl (by decide) rfl (fun ls hl => ?_)
  refine lv_iconst (v := 0) hx hb dX0_sendBy_18 (by decide) ?_
  refine lv_istore (lv' := [(5, .int 0), (4, .int 2), (0, .ref (a 35)), (1, .ref (b 0)), (2, .int x2), (3, .int x3)]) hx hb dX0_sendBy_19 hl (by decide) rfl (fun ls hl => ?_)
  refine lv_iconst (v := 0) hx hb dX0_sendBy_21 (by decide) ?_
  refine lv_istore (lv' := [(6, .int 0), (5, .int 0), (4, .int 2), (0, .ref (a 35)), (1, .ref (b 0)), (2, .int x2), (3, .int x3)]) hx hb dX0_sendBy_22 hl (by decide) rfl (fun ls hl => ?_)
  exact bkX0_sendBy_24L fu _ _ _ _ _ _ hB p e s0 m below meth c A E H locs ls hP hD hS (lv_sub hl [3, 4, 5, 6, 2, 1, 0] rfl)
theorem ckX0_sendBy {l : Launch} {dC : Nat → ClassId} {dI : Nat → Nat → Nat} {cB cI cJ cZ cS : ClassId} {a b : Nat → Nat} {r : Int32} {s' : JS} {s : JS} {x2 : Int32} {x3 : Int32} (hB : kX0_sendBy s x2 x3 = some (r, s')) : CI l yX0_sendBy wsX0_sendBy ({ frames := 5, cells := 0, slots := 0, locals := 124 }) (dC, dI) (tysA cB cI cJ cZ cS) (wJ cB cI cJ cZ cS a b s) [.ref (a 35), .ref (b 0), .int x2, .int x3] (fun x u => x = r ∧ u = (wJ cB cI cJ cZ cS a b s')) :=
  CI_of (cc := cX0_sendBy) (maxL := 8) (ret := (some .int)) (by decide) rfl (Nat.le_of_ble_eq_true rfl) (bkX0_sendBy _ _ _ hB)
theorem LX0_passYearOver_9 : Cond.fieldLink RX0 9 "GuessFerry$Crossing" "sound" "LGuessFerry$Sound;" ∈ wsX0_passYearOver := by decide +kernel
theorem LX0_passYearOver_I_X10 : Cond.initialized RX10 ∈ wsX0_passYearOver := by decide +kernel
theorem LX0_passYearOver_K128 : Cond.constant RX0 128 1000000 ∈ wsX0_passYearOver := by decide +kernel
theorem LX0_passYearOver_S_X10_lot : Cond.static yX10_lot ∈ wsX0_passYearOver := by decide +kernel
theorem inX0_passYearOver_X0 : ∀ w ∈ u_ws RX0 TX0 2, w ∈ wsX0_passYearOver := by decide +kernel
theorem inX0_passYearOver_X5 : ∀ w ∈ u_ws RX5 TX5 10, w ∈ wsX0_passYearOver := by decide +kernel
theorem inX0_passYearOver_X6 : ∀ w ∈ u_ws RX6 TX6 7, w ∈ wsX0_passYearOver := by decide +kernel
set_option maxHeartbeats 4000000 in
set_option maxRecDepth 100000 in
theorem bkX0_passYearOver {l : Launch} {dC : Nat → ClassId} {dI : Nat → Nat → Nat} {cB cI cJ cZ cS : ClassId} {a b : Nat → Nat} {as : List Value} {s' : JS} (s : JS) (x2 : Int32) (hB : kX0_passYearOver s x2 = some s') : BlkV l yX0_passYearOver wsX0_passYearOver ({ frames := 4, cells := 0, slots := 0, locals := 98 }) cX0_passYearOver 4 none (dC, dI) (tysA cB cI cJ cZ cS) as 0 (wJ cB cI cJ cZ cS a b s) [(0, .ref (a 35)), (1, .ref (b 0)), (2, .int x2)] [] (fun u => u = (wJ cB cI cJ cZ cS a b s')) := by
  intro p e s0 m below meth c A E H locs ls hP hD hS hl
  obtain ⟨C, hr, hlocks, hA, hK, hN⟩ := id E
  obtain ⟨hx, hb, hml, hown, hts⟩ := id C
  unfold kX0_passYearOver at hB
  refine lv_bipush (v := 100) hx hb dX0_passYearOver_0 (by decide) ?_
  refine lv_aload_n hx hb dX0_passYearOver_2 rfl (lv_at hl 0 rfl) ?_
  refine q_get (v := .ref (a 2)) C inX0_passYearOver_X0 hK hP 41 rfl rfl 0 (by decide) rfl LX0_passYearOver_9 rfl dX0_passYearOver_3 ?_
  refine q_getN (v := .int (s.k.v 4)) C hN inX0_passYearOver_X5 hK hP 8 rfl rfl 9 (by decide) rfl nwF_X0_42 rfl dX0_passYearOver_6 ?_
  refine lv_bipush (v := 8) hx hb dX0_passYearOver_9 (by decide) ?_
  refine lv_aload_n hx hb dX0_passYearOver_11 rfl (lv_at hl 1 rfl) ?_
  refine q_getN (v := .int (s.d.v 5)) C hN inX0_passYearOver_X6 hK hP 0 rfl rfl 5 (by decide) rfl nwF_X0_59 rfl dX0_passYearOver_12 ?_
  refine lv_imul hx hb dX0_passYearOver_15 ?_
  refine lv_ldc (v := 1000000) hx hb hown (hts _ LX0_passYearOver_K128) dX0_passYearOver_16 ?_
  refine lv_iadd hx hb dX0_passYearOver_18 ?_
  refine lv_iload_n hx hb dX0_passYearOver_19 rfl (lv_at hl 2 rfl) ?_
  refine lv_iadd hx hb dX0_passYearOver_20 ?_
  obtain ⟨q_, hc, hB⟩ := bindP_inv hB
  refine q_goi0 (va_runSN (As := [.int 100, .int (s.k.v 4), .int (((8 * (s.d.v 5)) + 1000000) + x2)]) (rest := []) C (ckX10_lot hc _) ⟨va_cnB 3 hts gX0_passYearOver_X10_lot_n129 rfl rfl rfl (hN _ nwM_X0_129 rfl) (hts _ LX0_passYearOver_I_X10) (by decide +kernel) ⟨Nat.le_of_ble_eq_true rfl, Nat.le_of_ble_eq_true rfl⟩, hts _ LX0_passYearOver_S_X10_lot, trivial⟩ (q_pre0 hN hK) rfl rfl hl.1 rfl (lv_room (Nat.le_of_ble_eq_true rfl)) dX0_passYearOver_21 ⟨Nat.le_of_ble_eq_true rfl, Nat.le_of_ble_eq_true rfl⟩) hP hD hS hA (fun r1 w1 H locs hw hP hS => ?_)
  subst hw
  refine lv_istore_n (lv' := [(3, .int r1), (0, .ref (a 35)), (1, .ref (b 0)), (2, .int x2)]) hx hb dX0_passYearOver_24 rfl hl (by decide) rfl (fun ls hl => ?_)
  refine lv_iload_n hx hb dX0_passYearOver_25 rfl (lv_at hl 0 rfl) ?_
  refine lv_aload_n hx hb dX0_passYearOver_26 rfl (lv_at hl 1 rfl) ?_
  refine lv_aload_n hx hb dX0_passYearOver_27 rfl (lv_at hl 2 rfl) ?_
  refine lv_iload_n hx hb dX0_passYearOver_28 rfl (lv_at hl 3 rfl) ?_
  obtain ⟨q_, s2, hc, hB⟩ := bindI_inv hB
  refine q_goiF (va_runV (As := [.ref (b 0), .int x2]) (rest := [.int r1]) C (ckX0_shiftsOf hc _) (cwV 2 hts gX0_passYearOver_X0_shiftsOf rfl rfl rfl (by decide +kernel) ⟨Nat.le_of_ble_eq_true rfl, Nat.le_of_ble_eq_true rfl⟩) (q_preV hK hP (ci := 0) (q0 := 41) rfl rfl rfl (q_preF hN hK hP hD)) rfl rfl hl.1 rfl (lv_room (Nat.le_of_ble_eq_true rfl)) dX0_passYearOver_29 ⟨Nat.le_of_ble_eq_true rfl, Nat.le_of_ble_eq_true rfl⟩) hD hS hA (fun r3 w1 H locs hw hP hD hS => ?_)
  obtain ⟨hq_, hw⟩ := hw; subst hw; subst hq_
  refine lv_icmp_ge (tgt := 59) hx hb dX0_passYearOver_32 (by decide) (fun c4 => ?_) (fun c4 => ?_)
  · have hB := if_p hB c4
    exact q_vret C hr hlocks hK hP hD hS (Nat.le_of_ble_eq_true rfl) (Nat.le_of_ble_eq_true rfl) dX0_passYearOver_59 (by cases hB; rfl)
  · have hB := if_n hB c4
    refine lv_aload_n hx hb dX0_passYearOver_35 rfl (lv_at hl 2 rfl) ?_
    refine q_getN (v := .ref (b 3)) C hN inX0_passYearOver_X6 hK hP 0 rfl rfl 2 (by decide) rfl nwF_X0_39 rfl dX0_passYearOver_36 ?_
    refine lv_iload_n hx hb dX0_passYearOver_39 rfl (lv_at hl 3 rfl) ?_
    refine lv_dup2_11 hx hb dX0_passYearOver_40 rfl rfl ?_
    obtain ⟨g5, hB⟩ := guard_inv hB
    refine q_iald (x := ((s2.d.f 2) (Int32.toNatClampNeg x2))) C hK hP 3 1 rfl rfl (vpb_in g5) dX0_passYearOver_41 rfl ?_
    refine lv_iconst (v := 1) hx hb dX0_passYearOver_42 (by decide) ?_
    refine lv_iadd hx hb dX0_passYearOver_43 ?_
    obtain ⟨g6, hB⟩ := guard_inv hB
    obtain ⟨s7, hs8, hB⟩ := letS_inv hB
    refine q_iast (f2 := (upd (s2.d.f 2) (Int32.toNatClampNeg x2) (((s2.d.f 2) (Int32.toNatClampNeg x2)) + 1))) (w2 := (wJ cB cI cJ cZ cS a b s7)) C hK hP hD hS 3 1 rfl rfl (vpb_in g6) dX0_passYearOver_44 rfl (by subst hs8; rfl) (fun H locs hP hD hS => ?_)
    refine lv_aload_n hx hb dX0_passYearOver_45 rfl (lv_at hl 2 rfl) ?_
    refine q_getN (v := .ref (b 1)) C hN inX0_passYearOver_X6 hK hP 0 rfl rfl 0 (by decide) rfl nwF_X0_28 rfl dX0_passYearOver_46 ?_
    refine lv_iload_n hx hb dX0_passYearOver_49 rfl (lv_at hl 3 rfl) ?_
    refine lv_iconst (v := (-1)) hx hb dX0_passYearOver_50 (by decide) ?_
    obtain ⟨g9, hB⟩ := guard_inv hB
    obtain ⟨s10, hs11, hB⟩ := letS_inv hB
    refine q_iast (f2 := (upd (s7.d.f 0) (Int32.toNatClampNeg x2) (-1))) (w2 := (wJ cB cI cJ cZ cS a b s10)) C hK hP hD hS 1 1 rfl rfl (vpb_in g9) dX0_passYearOver_51 rfl (by subst hs11; rfl) (fun H locs hP hD hS => ?_)
    refine lv_aload_n hx hb dX0_passYearOver_52 rfl (lv_at hl 2 rfl) ?_
    refine q_getN (v := .ref (b 2)) C hN inX0_passYearOver_X6 hK hP 0 rfl rfl 1 (by decide) rfl nwF_X0_36 rfl dX0_passYearOver_53 ?_
    refine lv_iload_n hx hb dX0_passYearOver_56 rfl (lv_at hl 3 rfl) ?_
    refine lv_iconst (v := 0) hx hb dX0_passYearOver_57 (by decide) ?_
    obtain ⟨g12, hB⟩ := guard_inv hB
    obtain ⟨s13, hs14, hB⟩ := letS_inv hB
    refine q_iast (f2 := (upd (s10.d.f 1) (Int32.toNatClampNeg x2) 0)) (w2 := (wJ cB cI cJ cZ cS a b s13)) C hK hP hD hS 2 1 rfl rfl (vpb_in g12) dX0_passYearOver_58 rfl (by subst hs14; rfl) (fun H locs hP hD hS => ?_)
    exact q_vret C hr hlocks hK hP hD hS (Nat.le_of_ble_eq_true rfl) (Nat.le_of_ble_eq_true rfl) dX0_passYearOver_59 (by cases hB; rfl)
theorem ckX0_passYearOver {l : Launch} {dC : Nat → ClassId} {dI : Nat → Nat → Nat} {cB cI cJ cZ cS : ClassId} {a b : Nat → Nat} {s' : JS} {s : JS} {x2 : Int32} (hB : kX0_passYearOver s x2 = some s') : CV l yX0_passYearOver wsX0_passYearOver ({ frames := 4, cells := 0, slots := 0, locals := 98 }) (dC, dI) (tysA cB cI cJ cZ cS) (wJ cB cI cJ cZ cS a b s) [.ref (a 35), .ref (b 0), .int x2] (fun u => u = (wJ cB cI cJ cZ cS a b s')) :=
  CV_of (cc := cX0_passYearOver) (maxL := 4) (ret := none) (by decide) rfl (Nat.le_of_ble_eq_true rfl) (bkX0_passYearOver _ _ hB)
theorem LX2_bestThing_28 : Cond.fieldLink RX2 28 "GuessFerry$Outlook" "crossing" "LGuessFerry$Crossing;" ∈ wsX2_bestThing := by decide +kernel
theorem LX2_bestThing_E_X0_needOf : Cond.selects RX0 yX0_needOf yX0_needOf ∈ wsX2_bestThing := by decide +kernel
theorem LX2_bestThing_I_X0 : Cond.initialized RX0 ∈ wsX2_bestThing := by decide +kernel
theorem LX2_bestThing_N_X0_needOf : Cond.instanceMethod yX0_needOf ∈ wsX2_bestThing := by decide +kernel
theorem inX2_bestThing_X2 : ∀ w ∈ u_ws RX2 TX2 6, w ∈ wsX2_bestThing := by decide +kernel
set_option maxHeartbeats 4000000 in
set_option maxRecDepth 100000 in
theorem bkX2_bestThing_63 {l : Launch} {dC : Nat → ClassId} {dI : Nat → Nat → Nat} {cB cI cJ cZ cS : ClassId} {a b : Nat → Nat} {as : List Value} {r : Int32} {s' : JS} {k9 : JS → Int32 → Int32 → Int32 → Int32 → Int32 → Option (Int32 × JS)} (hk9 : ∀ (s : JS) (x2 : Int32) (x3 : Int32) (x4 : Int32) (x5 : Int32) (x6 : Int32), k9 s x2 x3 x4 x5 x6 = some (r, s') → BlkI l yX2_bestThing wsX2_bestThing ({ frames := 4, cells := 0, slots := 0, locals := 100 }) cX2_bestThing 8 (some .int) (dC, dI) (tysA cB cI cJ cZ cS) as 9 (wJ cB cI cJ cZ cS a b s) [(0, .ref (a 36)), (1, .ref (b 0)), (2, .int x2), (3, .int x3), (4, .int x4), (5, .int x5), (6, .int x6)] [] (fun x u => x = r ∧ u = (wJ cB cI cJ cZ cS a b s'))) (s : JS) (x2 : Int32) (x3 : Int32) (x4 : Int32) (x5 : Int32) (x6 : Int32) (hB : kX2_bestThing_63 k9 s x2 x3 x4 x5 x6 = some (r, s')) : BlkI l yX2_bestThing wsX2_bestThing ({ frames := 4, cells := 0, slots := 0, locals := 100 }) cX2_bestThing 8 (some .int) (dC, dI) (tysA cB cI cJ cZ cS) as 63 (wJ cB cI cJ cZ cS a b s) [(0, .ref (a 36)), (1, .ref (b 0)), (2, .int x2), (3, .int x3), (4, .int x4), (5, .int x5), (6, .int x6)] [] (fun x u => x = r ∧ u = (wJ cB cI cJ cZ cS a b s')) := by
  intro p e s0 m below meth c A E H locs ls hP hD hS hl
  obtain ⟨C, hr, hlocks, hA, hK, hN⟩ := id E
  obtain ⟨hx, hb, hml, hown, hts⟩ := id C
  unfold kX2_bestThing_63 at hB
  refine lv_iinc (v := (x6 + 1)) (lv' := [(6, .int (x6 + 1)), (0, .ref (a 36)), (1, .ref (b 0)), (2, .int x2), (3, .int x3), (4, .int x4), (5, .int x5)]) hx hb dX2_bestThing_63 hl (k := 6) rfl (rfl) (by decide) rfl (fun ls hl => ?_)
  refine lv_goto (tgt := 9) hx hb dX2_bestThing_66 (by decide) ?_
  exact hk9 _ _ _ _ _ _ hB p e s0 m below meth c A E H locs ls hP hD hS (lv_sub hl [1, 2, 3, 4, 5, 6, 0] rfl)
set_option maxHeartbeats 4000000 in
set_option maxRecDepth 100000 in
theorem bkX2_bestThing_55 {l : Launch} {dC : Nat → ClassId} {dI : Nat → Nat → Nat} {cB cI cJ cZ cS : ClassId} {a b : Nat → Nat} {as : List Value} {r : Int32} {s' : JS} {k9 : JS → Int32 → Int32 → Int32 → Int32 → Int32 → Option (Int32 × JS)} (hk9 : ∀ (s : JS) (x2 : Int32) (x3 : Int32) (x4 : Int32) (x5 : Int32) (x6 : Int32), k9 s x2 x3 x4 x5 x6 = some (r, s') → BlkI l yX2_bestThing wsX2_bestThing ({ frames := 4, cells := 0, slots := 0, locals := 100 }) cX2_bestThing 8 (some .int) (dC, dI) (tysA cB cI cJ cZ cS) as 9 (wJ cB cI cJ cZ cS a b s) [(0, .ref (a 36)), (1, .ref (b 0)), (2, .int x2), (3, .int x3), (4, .int x4), (5, .int x5), (6, .int x6)] [] (fun x u => x = r ∧ u = (wJ cB cI cJ cZ cS a b s'))) (s : JS) (x2 : Int32) (x3 : Int32) (x6 : Int32) (x7 : Int32) (hB : kX2_bestThing_55 k9 s x2 x3 x6 x7 = some (r, s')) : BlkI l yX2_bestThing wsX2_bestThing ({ frames := 4, cells := 0, slots := 0, locals := 100 }) cX2_bestThing 8 (some .int) (dC, dI) (tysA cB cI cJ cZ cS) as 55 (wJ cB cI cJ cZ cS a b s) [(0, .ref (a 36)), (1, .ref (b 0)), (2, .int x2), (3, .int x3), (6, .int x6), (7, .int x7)] [] (fun x u => x = r ∧ u = (wJ cB cI cJ cZ cS a b s')) := by
  intro p e s0 m below meth c A E H locs ls hP hD hS hl
  obtain ⟨C, hr, hlocks, hA, hK, hN⟩ := id E
  obtain ⟨hx, hb, hml, hown, hts⟩ := id C
  unfold kX2_bestThing_55 at hB
  refine lv_iload hx hb dX2_bestThing_55 (lv_at hl 4 rfl) ?_
  refine lv_istore (lv' := [(4, .int x6), (0, .ref (a 36)), (1, .ref (b 0)), (2, .int x2), (3, .int x3), (6, .int x6), (7, .int x7)]) hx hb dX2_bestThing_57 hl (by decide) rfl (fun ls hl => ?_)
  refine lv_iload hx hb dX2_bestThing_59 (lv_at hl 6 rfl) ?_
  refine lv_istore (lv' := [(5, .int x7), (4, .int x6), (0, .ref (a 36)), (1, .ref (b 0)), (2, .int x2), (3, .int x3), (6, .int x6), (7, .int x7)]) hx hb dX2_bestThing_61 hl (by decide) rfl (fun ls hl => ?_)
  exact bkX2_bestThing_63 (hk9) _ _ _ _ _ _ hB p e s0 m below meth c A E H locs ls hP hD hS (lv_sub hl [2, 3, 4, 5, 1, 0, 6] rfl)
set_option maxHeartbeats 4000000 in
set_option maxRecDepth 100000 in
theorem bkX2_bestThing_9 {l : Launch} {dC : Nat → ClassId} {dI : Nat → Nat → Nat} {cB cI cJ cZ cS : ClassId} {a b : Nat → Nat} {as : List Value} {r : Int32} {s' : JS} {k9 : JS → Int32 → Int32 → Int32 → Int32 → Int32 → Option (Int32 × JS)} (hk9 : ∀ (s : JS) (x2 : Int32) (x3 : Int32) (x4 : Int32) (x5 : Int32) (x6 : Int32), k9 s x2 x3 x4 x5 x6 = some (r, s') → BlkI l yX2_bestThing wsX2_bestThing ({ frames := 4, cells := 0, slots := 0, locals := 100 }) cX2_bestThing 8 (some .int) (dC, dI) (tysA cB cI cJ cZ cS) as 9 (wJ cB cI cJ cZ cS a b s) [(0, .ref (a 36)), (1, .ref (b 0)), (2, .int x2), (3, .int x3), (4, .int x4), (5, .int x5), (6, .int x6)] [] (fun x u => x = r ∧ u = (wJ cB cI cJ cZ cS a b s'))) (s : JS) (x2 : Int32) (x3 : Int32) (x4 : Int32) (x5 : Int32) (x6 : Int32) (hB : kX2_bestThing_9 k9 s x2 x3 x4 x5 x6 = some (r, s')) : BlkI l yX2_bestThing wsX2_bestThing ({ frames := 4, cells := 0, slots := 0, locals := 100 }) cX2_bestThing 8 (some .int) (dC, dI) (tysA cB cI cJ cZ cS) as 9 (wJ cB cI cJ cZ cS a b s) [(0, .ref (a 36)), (1, .ref (b 0)), (2, .int x2), (3, .int x3), (4, .int x4), (5, .int x5), (6, .int x6)] [] (fun x u => x = r ∧ u = (wJ cB cI cJ cZ cS a b s')) := by
  intro p e s0 m below meth c A E H locs ls hP hD hS hl
  obtain ⟨C, hr, hlocks, hA, hK, hN⟩ := id E
  obtain ⟨hx, hb, hml, hown, hts⟩ := id C
  unfold kX2_bestThing_9 at hB
  refine lv_iload hx hb dX2_bestThing_9 (lv_at hl 6 rfl) ?_
  refine lv_bipush (v := 6) hx hb dX2_bestThing_11 (by decide) ?_
  refine lv_icmp_ge (tgt := 69) hx hb dX2_bestThing_13 (by decide) (fun c1 => ?_) (fun c1 => ?_)
  · have hB := if_p hB c1
    refine lv_iload hx hb dX2_bestThing_69 (lv_at hl 4 rfl) ?_
    exact q_iret C hr hlocks hK hP hD hS (Nat.le_of_ble_eq_true rfl) (Nat.le_of_ble_eq_true rfl) dX2_bestThing_71 (by cases hB; exact ⟨rfl, rfl⟩)
  · have hB := if_n hB c1
    refine lv_aload_n hx hb dX2_bestThing_16 rfl (lv_at hl 0 rfl) ?_
    refine lv_aload_n hx hb dX2_bestThing_17 rfl (lv_at hl 1 rfl) ?_
    refine lv_iload_n hx hb dX2_bestThing_18 rfl (lv_at hl 3 rfl) ?_
    refine lv_iload hx hb dX2_bestThing_19 (lv_at hl 6 rfl) ?_
    obtain ⟨q_, s2, hc, hB⟩ := bindI_inv hB
    refine q_goiF (va_runV (As := [.ref (b 0), .int x3, .int x6]) (rest := []) C (ckX2_oddsIfMay hc _) (cwV 3 hts gX2_bestThing_X2_oddsIfMay rfl rfl rfl (by decide +kernel) ⟨Nat.le_of_ble_eq_true rfl, Nat.le_of_ble_eq_true rfl⟩) (q_preV hK hP (ci := 2) (q0 := 42) rfl rfl rfl (q_preF hN hK hP hD)) rfl rfl hl.1 rfl (lv_room (Nat.le_of_ble_eq_true rfl)) dX2_bestThing_21 ⟨Nat.le_of_ble_eq_true rfl, Nat.le_of_ble_eq_true rfl⟩) hD hS hA (fun r3 w1 H locs hw hP hD hS => ?_)
    obtain ⟨hq_, hw⟩ := hw; subst hw; subst hq_
    refine lv_istore (lv' := [(7, .int r3), (0, .ref (a 36)), (1, .ref (b 0)), (2, .int x2), (3, .int x3), (4, .int x4), (5, .int x5), (6, .int x6)]) hx hb dX2_bestThing_24 hl (by decide) rfl (fun ls hl => ?_)
    refine lv_iload hx hb dX2_bestThing_26 (lv_at hl 0 rfl) ?_
    refine lv_iload hx hb dX2_bestThing_28 (lv_at hl 6 rfl) ?_
    refine lv_icmp_le (tgt := 63) hx hb dX2_bestThing_30 (by decide) (fun c4 => ?_) (fun c4 => ?_)
    · have hB := if_p hB c4
      exact bkX2_bestThing_63 (hk9) _ _ _ _ _ _ hB p e s0 m below meth c A E H locs ls hP hD hS (lv_sub hl [1, 2, 3, 4, 5, 6, 7] rfl)
    · have hB := if_n hB c4
      refine lv_iload_n hx hb dX2_bestThing_33 rfl (lv_at hl 3 rfl) ?_
      refine lv_iconst (v := (-1)) hx hb dX2_bestThing_34 (by decide) ?_
      refine lv_icmp_eq (tgt := 55) hx hb dX2_bestThing_35 (by decide) (fun c5 => ?_) (fun c5 => ?_)
      · have hB := if_p hB c5
        exact bkX2_bestThing_55 (hk9) _ _ _ _ _ hB p e s0 m below meth c A E H locs ls hP hD hS (lv_sub hl [1, 2, 3, 4, 7, 0] rfl)
      · have hB := if_n hB c5
        refine lv_iload hx hb dX2_bestThing_38 (lv_at hl 0 rfl) ?_
        refine lv_aload_n hx hb dX2_bestThing_40 rfl (lv_at hl 1 rfl) ?_
        refine q_get (v := .ref (a 35)) C inX2_bestThing_X2 hK hP 42 rfl rfl 1 (by decide) rfl LX2_bestThing_28 rfl dX2_bestThing_41 ?_
        refine lv_aload_n hx hb dX2_bestThing_44 rfl (lv_at hl 2 rfl) ?_
        refine lv_iload_n hx hb dX2_bestThing_45 rfl (lv_at hl 3 rfl) ?_
        refine lv_iload_n hx hb dX2_bestThing_46 rfl (lv_at hl 4 rfl) ?_
        refine lv_iload hx hb dX2_bestThing_47 (lv_at hl 7 rfl) ?_
        obtain ⟨q_, s6, hc, hB⟩ := bindI_inv hB
        refine q_goiF (va_runVN (As := [.ref (b 0), .int x2, .int x3, .int x6]) (rest := [.int r3]) C (ckX0_needOf hc _) ⟨va_cnB 4 hts gX2_bestThing_X0_needOf_n71 rfl rfl rfl (hN _ nwM_X2_71 rfl) (hts _ LX2_bestThing_I_X0) (by decide +kernel) ⟨Nat.le_of_ble_eq_true rfl, Nat.le_of_ble_eq_true rfl⟩, hts _ LX2_bestThing_N_X0_needOf, hts _ LX2_bestThing_E_X0_needOf⟩ (q_preV hK hP (ci := 0) (q0 := 41) rfl rfl rfl (q_preF hN hK hP hD)) rfl rfl hl.1 rfl (lv_room (Nat.le_of_ble_eq_true rfl)) dX2_bestThing_49 ⟨Nat.le_of_ble_eq_true rfl, Nat.le_of_ble_eq_true rfl⟩) hD hS hA (fun r7 w1 H locs hw hP hD hS => ?_)
        obtain ⟨hq_, hw⟩ := hw; subst hw; subst hq_
        refine lv_icmp_lt (tgt := 63) hx hb dX2_bestThing_52 (by decide) (fun c8 => ?_) (fun c8 => ?_)
        · have hB := if_p hB c8
          exact bkX2_bestThing_63 (hk9) _ _ _ _ _ _ hB p e s0 m below meth c A E H locs ls hP hD hS (lv_sub hl [1, 2, 3, 4, 5, 6, 7] rfl)
        · have hB := if_n hB c8
          exact bkX2_bestThing_55 (hk9) _ _ _ _ _ hB p e s0 m below meth c A E H locs ls hP hD hS (lv_sub hl [1, 2, 3, 4, 7, 0] rfl)
theorem bkX2_bestThing_9L {l : Launch} {dC : Nat → ClassId} {dI : Nat → Nat → Nat} {cB cI cJ cZ cS : ClassId} {a b : Nat → Nat} {as : List Value} {r : Int32} {s' : JS} : ∀ (n : Nat) (s : JS) (x2 : Int32) (x3 : Int32) (x4 : Int32) (x5 : Int32) (x6 : Int32), kX2_bestThing_9L n s x2 x3 x4 x5 x6 = some (r, s') → BlkI l yX2_bestThing wsX2_bestThing ({ frames := 4, cells := 0, slots := 0, locals := 100 }) cX2_bestThing 8 (some .int) (dC, dI) (tysA cB cI cJ cZ cS) as 9 (wJ cB cI cJ cZ cS a b s) [(0, .ref (a 36)), (1, .ref (b 0)), (2, .int x2), (3, .int x3), (4, .int x4), (5, .int x5), (6, .int x6)] [] (fun x u => x = r ∧ u = (wJ cB cI cJ cZ cS a b s')) := by
  intro n
  induction n with
  | zero => intro s x2 x3 x4 x5 x6 hB; exact none_ne hB
  | succ n ih => intro s x2 x3 x4 x5 x6 hB; exact bkX2_bestThing_9 ih _ _ _ _ _ _ hB
set_option maxHeartbeats 4000000 in
set_option maxRecDepth 100000 in
theorem bkX2_bestThing {l : Launch} {dC : Nat → ClassId} {dI : Nat → Nat → Nat} {cB cI cJ cZ cS : ClassId} {a b : Nat → Nat} {as : List Value} {r : Int32} {s' : JS} (s : JS) (x2 : Int32) (x3 : Int32) (hB : kX2_bestThing s x2 x3 = some (r, s')) : BlkI l yX2_bestThing wsX2_bestThing ({ frames := 4, cells := 0, slots := 0, locals := 100 }) cX2_bestThing 8 (some .int) (dC, dI) (tysA cB cI cJ cZ cS) as 0 (wJ cB cI cJ cZ cS a b s) [(0, .ref (a 36)), (1, .ref (b 0)), (2, .int x2), (3, .int x3)] [] (fun x u => x = r ∧ u = (wJ cB cI cJ cZ cS a b s')) := by
  intro p e s0 m below meth c A E H locs ls hP hD hS hl
  obtain ⟨C, hr, hlocks, hA, hK, hN⟩ := id E
  obtain ⟨hx, hb, hml, hown, hts⟩ := id C
  unfold kX2_bestThing at hB
  refine lv_iconst (v := (-1)) hx hb dX2_bestThing_0 (by decide) ?_
  refine lv_istore (lv' := [(4, .int (-1)), (0, .ref (a 36)), (1, .ref (b 0)), (2, .int x2), (3, .int x3)]) hx hb dX2_bestThing_1 hl (by decide) rfl (fun ls hl => ?_)
  refine lv_iconst (v := 0) hx hb dX2_bestThing_3 (by decide) ?_
  refine lv_istore (lv' := [(5, .int 0), (4, .int (-1)), (0, .ref (a 36)), (1, .ref (b 0)), (2, .int x2), (3, .int x3)]) hx hb dX2_bestThing_4 hl (by decide) rfl (fun ls hl => ?_)
  refine lv_iconst (v := 0) hx hb dX2_bestThing_6 (by decide) ?_
  refine lv_istore (lv' := [(6, .int 0), (5, .int 0), (4, .int (-1)), (0, .ref (a 36)), (1, .ref (b 0)), (2, .int x2), (3, .int x3)]) hx hb dX2_bestThing_7 hl (by decide) rfl (fun ls hl => ?_)
  exact bkX2_bestThing_9L fu _ _ _ _ _ _ hB p e s0 m below meth c A E H locs ls hP hD hS (lv_sub hl [3, 4, 5, 6, 2, 1, 0] rfl)
theorem ckX2_bestThing {l : Launch} {dC : Nat → ClassId} {dI : Nat → Nat → Nat} {cB cI cJ cZ cS : ClassId} {a b : Nat → Nat} {r : Int32} {s' : JS} {s : JS} {x2 : Int32} {x3 : Int32} (hB : kX2_bestThing s x2 x3 = some (r, s')) : CI l yX2_bestThing wsX2_bestThing ({ frames := 4, cells := 0, slots := 0, locals := 100 }) (dC, dI) (tysA cB cI cJ cZ cS) (wJ cB cI cJ cZ cS a b s) [.ref (a 36), .ref (b 0), .int x2, .int x3] (fun x u => x = r ∧ u = (wJ cB cI cJ cZ cS a b s')) :=
  CI_of (cc := cX2_bestThing) (maxL := 8) (ret := (some .int)) (by decide) rfl (Nat.le_of_ble_eq_true rfl) (bkX2_bestThing _ _ _ hB)
