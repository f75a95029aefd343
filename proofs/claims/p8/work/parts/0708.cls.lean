theorem ggX2_fillNear_X2_fillRow : GoodIn wsX2_fillNear wsX2_fillRow := gi_sub (fun w h => List.mem_cons_of_mem _ (List.mem_append_left _ (List.mem_append_left _ (List.mem_append_left _ (List.mem_append_left _ (List.mem_append_right _ h)))))) gd_wsX2_fillRow
set_option maxRecDepth 20000 in
theorem gX2_fillNear_X2_fillRow : GoodIn wsX2_fillNear (wsV RX2 90 RX2 yX2_fillRow wsX2_fillRow) := goodIn_app (goodIn_r _ [7, 8, 9, 10] (by decide +kernel) (by decide +kernel)) ggX2_fillNear_X2_fillRow
theorem dX2_fillNear_0 : decode cX2_fillNear 0 = .ok (.aload_n 0, 1) := dc1_42 (by decide +kernel)
theorem dX2_fillNear_1 : decode cX2_fillNear 1 = .ok (.aload_n 1, 1) := dc1_43 (by decide +kernel)
theorem dX2_fillNear_2 : decode cX2_fillNear 2 = .ok (.aload_n 0, 1) := dc1_42 (by decide +kernel)
theorem dX2_fillNear_3 : decode cX2_fillNear 3 = .ok (.getfield 9, 3) := dcw_180 (by decide +kernel)
theorem dX2_fillNear_6 : decode cX2_fillNear 6 = .ok (.iconst 0, 1) := dc1_3 (by decide +kernel)
theorem dX2_fillNear_7 : decode cX2_fillNear 7 = .ok (.iconst 3, 1) := dc1_6 (by decide +kernel)
theorem dX2_fillNear_8 : decode cX2_fillNear 8 = .ok (.aload_n 0, 1) := dc1_42 (by decide +kernel)
theorem dX2_fillNear_9 : decode cX2_fillNear 9 = .ok (.getfield 24, 3) := dcw_180 (by decide +kernel)
theorem dX2_fillNear_12 : decode cX2_fillNear 12 = .ok (.getfield 44, 3) := dcw_180 (by decide +kernel)
theorem dX2_fillNear_15 : decode cX2_fillNear 15 = .ok (.invokestatic 87, 3) := dcw_184 (by decide +kernel)
theorem dX2_fillNear_18 : decode cX2_fillNear 18 = .ok (.invokevirtual 90, 3) := dcw_182 (by decide +kernel)
theorem dX2_fillNear_21 : decode cX2_fillNear 21 = .ok (.ireturn, 1) := dc1_172 (by decide +kernel)
theorem ggX2_fillFar_X2_fillRow : GoodIn wsX2_fillFar wsX2_fillRow := gi_sub (fun w h => List.mem_cons_of_mem _ (List.mem_append_left _ (List.mem_append_left _ (List.mem_append_left _ (List.mem_append_left _ (List.mem_append_right _ h)))))) gd_wsX2_fillRow
set_option maxRecDepth 20000 in
theorem gX2_fillFar_X2_fillRow : GoodIn wsX2_fillFar (wsV RX2 90 RX2 yX2_fillRow wsX2_fillRow) := goodIn_app (goodIn_r _ [3, 4, 5, 6] (by decide +kernel) (by decide +kernel)) ggX2_fillFar_X2_fillRow
theorem dX2_fillFar_0 : decode cX2_fillFar 0 = .ok (.aload_n 0, 1) := dc1_42 (by decide +kernel)
theorem dX2_fillFar_1 : decode cX2_fillFar 1 = .ok (.aload_n 1, 1) := dc1_43 (by decide +kernel)
theorem dX2_fillFar_2 : decode cX2_fillFar 2 = .ok (.aload_n 0, 1) := dc1_42 (by decide +kernel)
theorem dX2_fillFar_3 : decode cX2_fillFar 3 = .ok (.getfield 15, 3) := dcw_180 (by decide +kernel)
theorem dX2_fillFar_6 : decode cX2_fillFar 6 = .ok (.iconst 3, 1) := dc1_6 (by decide +kernel)
theorem dX2_fillFar_7 : decode cX2_fillFar 7 = .ok (.aload_n 0, 1) := dc1_42 (by decide +kernel)
theorem dX2_fillFar_8 : decode cX2_fillFar 8 = .ok (.getfield 24, 3) := dcw_180 (by decide +kernel)
theorem dX2_fillFar_11 : decode cX2_fillFar 11 = .ok (.getfield 44, 3) := dcw_180 (by decide +kernel)
theorem dX2_fillFar_14 : decode cX2_fillFar 14 = .ok (.invokevirtual 90, 3) := dcw_182 (by decide +kernel)
theorem dX2_fillFar_17 : decode cX2_fillFar 17 = .ok (.ireturn, 1) := dc1_172 (by decide +kernel)
theorem ggX2_casesAheadOf_X2_fillNear : GoodIn wsX2_casesAheadOf wsX2_fillNear := gi_sub (fun w h => List.mem_cons_of_mem _ (List.mem_append_left _ (List.mem_append_left _ (List.mem_append_left _ (List.mem_append_left _ (List.mem_append_right _ (List.mem_append_left _ h))))))) gd_wsX2_fillNear
set_option maxRecDepth 20000 in
theorem gX2_casesAheadOf_X2_fillNear : GoodIn wsX2_casesAheadOf (wsV RX2 94 RX2 yX2_fillNear wsX2_fillNear) := goodIn_app (goodIn_r _ [3, 4, 5, 6] (by decide +kernel) (by decide +kernel)) ggX2_casesAheadOf_X2_fillNear
theorem ggX2_casesAheadOf_X2_fillFar : GoodIn wsX2_casesAheadOf wsX2_fillFar := gi_sub (fun w h => List.mem_cons_of_mem _ (List.mem_append_left _ (List.mem_append_left _ (List.mem_append_left _ (List.mem_append_left _ (List.mem_append_right _ (List.mem_append_right _ h))))))) gd_wsX2_fillFar
set_option maxRecDepth 20000 in
theorem gX2_casesAheadOf_X2_fillFar : GoodIn wsX2_casesAheadOf (wsV RX2 98 RX2 yX2_fillFar wsX2_fillFar) := goodIn_app (goodIn_r _ [7, 8, 9, 6] (by decide +kernel) (by decide +kernel)) ggX2_casesAheadOf_X2_fillFar
theorem dX2_casesAheadOf_0 : decode cX2_casesAheadOf 0 = .ok (.aload_n 0, 1) := dc1_42 (by decide +kernel)
theorem dX2_casesAheadOf_1 : decode cX2_casesAheadOf 1 = .ok (.aload_n 1, 1) := dc1_43 (by decide +kernel)
theorem dX2_casesAheadOf_2 : decode cX2_casesAheadOf 2 = .ok (.invokevirtual 94, 3) := dcw_182 (by decide +kernel)
theorem dX2_casesAheadOf_5 : decode cX2_casesAheadOf 5 = .ok (.istore 4, 2) := dcu_54 (by decide +kernel)
theorem dX2_casesAheadOf_7 : decode cX2_casesAheadOf 7 = .ok (.aload_n 0, 1) := dc1_42 (by decide +kernel)
theorem dX2_casesAheadOf_8 : decode cX2_casesAheadOf 8 = .ok (.aload_n 1, 1) := dc1_43 (by decide +kernel)
theorem dX2_casesAheadOf_9 : decode cX2_casesAheadOf 9 = .ok (.invokevirtual 98, 3) := dcw_182 (by decide +kernel)
theorem dX2_casesAheadOf_12 : decode cX2_casesAheadOf 12 = .ok (.istore 5, 2) := dcu_54 (by decide +kernel)
theorem dX2_casesAheadOf_14 : decode cX2_casesAheadOf 14 = .ok (.iconst 0, 1) := dc1_3 (by decide +kernel)
theorem dX2_casesAheadOf_15 : decode cX2_casesAheadOf 15 = .ok (.istore 6, 2) := dcu_54 (by decide +kernel)
theorem dX2_casesAheadOf_17 : decode cX2_casesAheadOf 17 = .ok (.iconst 0, 1) := dc1_3 (by decide +kernel)
theorem dX2_casesAheadOf_18 : decode cX2_casesAheadOf 18 = .ok (.istore 7, 2) := dcu_54 (by decide +kernel)
theorem dX2_casesAheadOf_20 : decode cX2_casesAheadOf 20 = .ok (.iconst 0, 1) := dc1_3 (by decide +kernel)
theorem dX2_casesAheadOf_21 : decode cX2_casesAheadOf 21 = .ok (.istore 8, 2) := dcu_54 (by decide +kernel)
theorem dX2_casesAheadOf_23 : decode cX2_casesAheadOf 23 = .ok (.iload 8, 2) := dcu_21 (by decide +kernel)
theorem dX2_casesAheadOf_25 : decode cX2_casesAheadOf 25 = .ok (.iload 5, 2) := dcu_21 (by decide +kernel)
theorem dX2_casesAheadOf_27 : decode cX2_casesAheadOf 27 = .ok (.if_icmp .ge 66, 3) := dcs_162 (n := 66) (by decide +kernel)
theorem dX2_casesAheadOf_30 : decode cX2_casesAheadOf 30 = .ok (.iconst 0, 1) := dc1_3 (by decide +kernel)
theorem dX2_casesAheadOf_31 : decode cX2_casesAheadOf 31 = .ok (.istore 9, 2) := dcu_54 (by decide +kernel)
theorem dX2_casesAheadOf_33 : decode cX2_casesAheadOf 33 = .ok (.iload 9, 2) := dcu_21 (by decide +kernel)
theorem dX2_casesAheadOf_35 : decode cX2_casesAheadOf 35 = .ok (.iload 4, 2) := dcu_21 (by decide +kernel)
theorem dX2_casesAheadOf_37 : decode cX2_casesAheadOf 37 = .ok (.if_icmp .ge 50, 3) := dcs_162 (n := 50) (by decide +kernel)
theorem dX2_casesAheadOf_40 : decode cX2_casesAheadOf 40 = .ok (.aload_n 0, 1) := dc1_42 (by decide +kernel)
theorem dX2_casesAheadOf_41 : decode cX2_casesAheadOf 41 = .ok (.getfield 15, 3) := dcw_180 (by decide +kernel)
theorem dX2_casesAheadOf_44 : decode cX2_casesAheadOf 44 = .ok (.iload 8, 2) := dcu_21 (by decide +kernel)
theorem dX2_casesAheadOf_46 : decode cX2_casesAheadOf 46 = .ok (.iaload, 1) := dc1_46 (by decide +kernel)
theorem dX2_casesAheadOf_47 : decode cX2_casesAheadOf 47 = .ok (.aload_n 0, 1) := dc1_42 (by decide +kernel)
theorem dX2_casesAheadOf_48 : decode cX2_casesAheadOf 48 = .ok (.getfield 9, 3) := dcw_180 (by decide +kernel)
theorem dX2_casesAheadOf_51 : decode cX2_casesAheadOf 51 = .ok (.iload 9, 2) := dcu_21 (by decide +kernel)
theorem dX2_casesAheadOf_53 : decode cX2_casesAheadOf 53 = .ok (.iaload, 1) := dc1_46 (by decide +kernel)
theorem dX2_casesAheadOf_54 : decode cX2_casesAheadOf 54 = .ok (.imul, 1) := dc1_104 (by decide +kernel)
theorem dX2_casesAheadOf_55 : decode cX2_casesAheadOf 55 = .ok (.istore 10, 2) := dcu_54 (by decide +kernel)
theorem dX2_casesAheadOf_57 : decode cX2_casesAheadOf 57 = .ok (.iload 10, 2) := dcu_21 (by decide +kernel)
theorem dX2_casesAheadOf_59 : decode cX2_casesAheadOf 59 = .ok (.iload_n 3, 1) := dc1_29 (by decide +kernel)
theorem dX2_casesAheadOf_60 : decode cX2_casesAheadOf 60 = .ok (.if_icmp .gt 15, 3) := dcs_163 (n := 15) (by decide +kernel)
theorem dX2_casesAheadOf_63 : decode cX2_casesAheadOf 63 = .ok (.iload 10, 2) := dcu_21 (by decide +kernel)
theorem dX2_casesAheadOf_65 : decode cX2_casesAheadOf 65 = .ok (.iload_n 3, 1) := dc1_29 (by decide +kernel)
theorem dX2_casesAheadOf_66 : decode cX2_casesAheadOf 66 = .ok (.if_icmp .ne 12, 3) := dcs_160 (n := 12) (by decide +kernel)
theorem dX2_casesAheadOf_69 : decode cX2_casesAheadOf 69 = .ok (.iload 7, 2) := dcu_21 (by decide +kernel)
theorem dX2_casesAheadOf_71 : decode cX2_casesAheadOf 71 = .ok (.iload_n 2, 1) := dc1_28 (by decide +kernel)
theorem dX2_casesAheadOf_72 : decode cX2_casesAheadOf 72 = .ok (.if_icmp .ge 6, 3) := dcs_162 (n := 6) (by decide +kernel)
theorem dX2_casesAheadOf_75 : decode cX2_casesAheadOf 75 = .ok (.iinc 6 1, 3) := dc_iinc (m := 1) (by decide +kernel)
theorem dX2_casesAheadOf_78 : decode cX2_casesAheadOf 78 = .ok (.iinc 7 1, 3) := dc_iinc (m := 1) (by decide +kernel)
theorem dX2_casesAheadOf_81 : decode cX2_casesAheadOf 81 = .ok (.iinc 9 1, 3) := dc_iinc (m := 1) (by decide +kernel)
theorem dX2_casesAheadOf_84 : decode cX2_casesAheadOf 84 = .ok (.goto (-51), 3) := dcs_167 (n := 65485) (by decide +kernel)
theorem dX2_casesAheadOf_87 : decode cX2_casesAheadOf 87 = .ok (.iinc 8 1, 3) := dc_iinc (m := 1) (by decide +kernel)
theorem dX2_casesAheadOf_90 : decode cX2_casesAheadOf 90 = .ok (.goto (-67), 3) := dcs_167 (n := 65469) (by decide +kernel)
theorem dX2_casesAheadOf_93 : decode cX2_casesAheadOf 93 = .ok (.iload 6, 2) := dcu_21 (by decide +kernel)
theorem dX2_casesAheadOf_95 : decode cX2_casesAheadOf 95 = .ok (.ireturn, 1) := dc1_172 (by decide +kernel)
theorem ggX2_caseAtRank_X2_fillNear : GoodIn wsX2_caseAtRank wsX2_fillNear := gi_sub (fun w h => List.mem_cons_of_mem _ (List.mem_append_left _ (List.mem_append_left _ (List.mem_append_left _ (List.mem_append_left _ (List.mem_append_right _ (List.mem_append_left _ h))))))) gd_wsX2_fillNear
set_option maxRecDepth 20000 in
theorem gX2_caseAtRank_X2_fillNear : GoodIn wsX2_caseAtRank (wsV RX2 94 RX2 yX2_fillNear wsX2_fillNear) := goodIn_app (goodIn_r _ [5, 6, 7, 8] (by decide +kernel) (by decide +kernel)) ggX2_caseAtRank_X2_fillNear
theorem ggX2_caseAtRank_X2_fillFar : GoodIn wsX2_caseAtRank wsX2_fillFar := gi_sub (fun w h => List.mem_cons_of_mem _ (List.mem_append_left _ (List.mem_append_left _ (List.mem_append_left _ (List.mem_append_left _ (List.mem_append_right _ (List.mem_append_right _ (List.mem_append_left _ h)))))))) gd_wsX2_fillFar
set_option maxRecDepth 20000 in
theorem gX2_caseAtRank_X2_fillFar : GoodIn wsX2_caseAtRank (wsV RX2 98 RX2 yX2_fillFar wsX2_fillFar) := goodIn_app (goodIn_r _ [13, 14, 15, 8] (by decide +kernel) (by decide +kernel)) ggX2_caseAtRank_X2_fillFar
theorem ggX2_caseAtRank_J7_fill_53178 : GoodIn wsX2_caseAtRank wsJ7_fill_53178 := gi_sub (fun w h => List.mem_cons_of_mem _ (List.mem_append_left _ (List.mem_append_left _ (List.mem_append_left _ (List.mem_append_left _ (List.mem_append_right _ (List.mem_append_right _ (List.mem_append_right _ (List.mem_append_left _ h))))))))) gd_wsJ7_fill_53178
set_option maxRecDepth 20000 in
theorem gX2_caseAtRank_J7_fill_53178 : GoodIn wsX2_caseAtRank (va_wsS RX2 101 yJ7_fill_53178 wsJ7_fill_53178) := goodIn_app (goodIn_of _ (by decide +kernel)) ggX2_caseAtRank_J7_fill_53178
theorem ggX2_caseAtRank_X2_putOnTop : GoodIn wsX2_caseAtRank wsX2_putOnTop := gi_sub (fun w h => List.mem_cons_of_mem _ (List.mem_append_left _ (List.mem_append_left _ (List.mem_append_left _ (List.mem_append_left _ (List.mem_append_right _ (List.mem_append_right _ (List.mem_append_right _ (List.mem_append_right _ h))))))))) gd_wsX2_putOnTop
set_option maxRecDepth 20000 in
theorem gX2_caseAtRank_X2_putOnTop : GoodIn wsX2_caseAtRank (wsV RX2 107 RX2 yX2_putOnTop wsX2_putOnTop) := goodIn_app (goodIn_r _ [19, 20, 21, 8] (by decide +kernel) (by decide +kernel)) ggX2_caseAtRank_X2_putOnTop
theorem dX2_caseAtRank_0 : decode cX2_caseAtRank 0 = .ok (.aload_n 0, 1) := dc1_42 (by decide +kernel)
theorem dX2_caseAtRank_1 : decode cX2_caseAtRank 1 = .ok (.aload_n 1, 1) := dc1_43 (by decide +kernel)
theorem dX2_caseAtRank_2 : decode cX2_caseAtRank 2 = .ok (.invokevirtual 94, 3) := dcw_182 (by decide +kernel)
theorem dX2_caseAtRank_5 : decode cX2_caseAtRank 5 = .ok (.istore_n 3, 1) := dc1_62 (by decide +kernel)
theorem dX2_caseAtRank_6 : decode cX2_caseAtRank 6 = .ok (.aload_n 0, 1) := dc1_42 (by decide +kernel)
theorem dX2_caseAtRank_7 : decode cX2_caseAtRank 7 = .ok (.aload_n 1, 1) := dc1_43 (by decide +kernel)
theorem dX2_caseAtRank_8 : decode cX2_caseAtRank 8 = .ok (.invokevirtual 98, 3) := dcw_182 (by decide +kernel)
theorem dX2_caseAtRank_11 : decode cX2_caseAtRank 11 = .ok (.istore 4, 2) := dcu_54 (by decide +kernel)
theorem dX2_caseAtRank_13 : decode cX2_caseAtRank 13 = .ok (.aload_n 0, 1) := dc1_42 (by decide +kernel)
theorem dX2_caseAtRank_14 : decode cX2_caseAtRank 14 = .ok (.getfield 21, 3) := dcw_180 (by decide +kernel)
theorem dX2_caseAtRank_17 : decode cX2_caseAtRank 17 = .ok (.iconst 0, 1) := dc1_3 (by decide +kernel)
theorem dX2_caseAtRank_18 : decode cX2_caseAtRank 18 = .ok (.invokestatic 101, 3) := dcw_184 (by decide +kernel)
theorem dX2_caseAtRank_21 : decode cX2_caseAtRank 21 = .ok (.aload_n 0, 1) := dc1_42 (by decide +kernel)
theorem dX2_caseAtRank_22 : decode cX2_caseAtRank 22 = .ok (.getfield 18, 3) := dcw_180 (by decide +kernel)
theorem dX2_caseAtRank_25 : decode cX2_caseAtRank 25 = .ok (.iconst (-1), 1) := dc1_2 (by decide +kernel)
theorem dX2_caseAtRank_26 : decode cX2_caseAtRank 26 = .ok (.invokestatic 101, 3) := dcw_184 (by decide +kernel)
theorem dX2_caseAtRank_29 : decode cX2_caseAtRank 29 = .ok (.iconst 0, 1) := dc1_3 (by decide +kernel)
theorem dX2_caseAtRank_30 : decode cX2_caseAtRank 30 = .ok (.istore 5, 2) := dcu_54 (by decide +kernel)
theorem dX2_caseAtRank_32 : decode cX2_caseAtRank 32 = .ok (.iconst 0, 1) := dc1_3 (by decide +kernel)
theorem dX2_caseAtRank_33 : decode cX2_caseAtRank 33 = .ok (.istore 6, 2) := dcu_54 (by decide +kernel)
theorem dX2_caseAtRank_35 : decode cX2_caseAtRank 35 = .ok (.iload 6, 2) := dcu_21 (by decide +kernel)
theorem dX2_caseAtRank_37 : decode cX2_caseAtRank 37 = .ok (.iload 4, 2) := dcu_21 (by decide +kernel)
theorem dX2_caseAtRank_39 : decode cX2_caseAtRank 39 = .ok (.if_icmp .ge 64, 3) := dcs_162 (n := 64) (by decide +kernel)
theorem dX2_caseAtRank_42 : decode cX2_caseAtRank 42 = .ok (.iconst 0, 1) := dc1_3 (by decide +kernel)
theorem dX2_caseAtRank_43 : decode cX2_caseAtRank 43 = .ok (.istore 7, 2) := dcu_54 (by decide +kernel)
theorem dX2_caseAtRank_45 : decode cX2_caseAtRank 45 = .ok (.iload 7, 2) := dcu_21 (by decide +kernel)
theorem dX2_caseAtRank_47 : decode cX2_caseAtRank 47 = .ok (.iload_n 3, 1) := dc1_29 (by decide +kernel)
theorem dX2_caseAtRank_48 : decode cX2_caseAtRank 48 = .ok (.if_icmp .ge 49, 3) := dcs_162 (n := 49) (by decide +kernel)
theorem dX2_caseAtRank_51 : decode cX2_caseAtRank 51 = .ok (.aload_n 0, 1) := dc1_42 (by decide +kernel)
theorem dX2_caseAtRank_52 : decode cX2_caseAtRank 52 = .ok (.getfield 15, 3) := dcw_180 (by decide +kernel)
theorem dX2_caseAtRank_55 : decode cX2_caseAtRank 55 = .ok (.iload 6, 2) := dcu_21 (by decide +kernel)
theorem dX2_caseAtRank_57 : decode cX2_caseAtRank 57 = .ok (.iaload, 1) := dc1_46 (by decide +kernel)
theorem dX2_caseAtRank_58 : decode cX2_caseAtRank 58 = .ok (.aload_n 0, 1) := dc1_42 (by decide +kernel)
theorem dX2_caseAtRank_59 : decode cX2_caseAtRank 59 = .ok (.getfield 9, 3) := dcw_180 (by decide +kernel)
theorem dX2_caseAtRank_62 : decode cX2_caseAtRank 62 = .ok (.iload 7, 2) := dcu_21 (by decide +kernel)
theorem dX2_caseAtRank_64 : decode cX2_caseAtRank 64 = .ok (.iaload, 1) := dc1_46 (by decide +kernel)
theorem dX2_caseAtRank_65 : decode cX2_caseAtRank 65 = .ok (.imul, 1) := dc1_104 (by decide +kernel)
theorem dX2_caseAtRank_66 : decode cX2_caseAtRank 66 = .ok (.istore 8, 2) := dcu_54 (by decide +kernel)
theorem dX2_caseAtRank_68 : decode cX2_caseAtRank 68 = .ok (.iload 8, 2) := dcu_21 (by decide +kernel)
theorem dX2_caseAtRank_70 : decode cX2_caseAtRank 70 = .ok (.aload_n 0, 1) := dc1_42 (by decide +kernel)
theorem dX2_caseAtRank_71 : decode cX2_caseAtRank 71 = .ok (.getfield 21, 3) := dcw_180 (by decide +kernel)
theorem dX2_caseAtRank_74 : decode cX2_caseAtRank 74 = .ok (.iload_n 2, 1) := dc1_28 (by decide +kernel)
theorem dX2_caseAtRank_75 : decode cX2_caseAtRank 75 = .ok (.iaload, 1) := dc1_46 (by decide +kernel)
theorem dX2_caseAtRank_76 : decode cX2_caseAtRank 76 = .ok (.if_icmp .le 12, 3) := dcs_164 (n := 12) (by decide +kernel)
theorem dX2_caseAtRank_79 : decode cX2_caseAtRank 79 = .ok (.aload_n 0, 1) := dc1_42 (by decide +kernel)
theorem dX2_caseAtRank_80 : decode cX2_caseAtRank 80 = .ok (.iload 5, 2) := dcu_21 (by decide +kernel)
theorem dX2_caseAtRank_82 : decode cX2_caseAtRank 82 = .ok (.iload 8, 2) := dcu_21 (by decide +kernel)
theorem dX2_caseAtRank_84 : decode cX2_caseAtRank 84 = .ok (.iload_n 2, 1) := dc1_28 (by decide +kernel)
theorem dX2_caseAtRank_85 : decode cX2_caseAtRank 85 = .ok (.invokevirtual 107, 3) := dcw_182 (by decide +kernel)
theorem dX2_caseAtRank_88 : decode cX2_caseAtRank 88 = .ok (.iinc 5 1, 3) := dc_iinc (m := 1) (by decide +kernel)
theorem dX2_caseAtRank_91 : decode cX2_caseAtRank 91 = .ok (.iinc 7 1, 3) := dc_iinc (m := 1) (by decide +kernel)
theorem dX2_caseAtRank_94 : decode cX2_caseAtRank 94 = .ok (.goto (-49), 3) := dcs_167 (n := 65487) (by decide +kernel)
theorem dX2_caseAtRank_97 : decode cX2_caseAtRank 97 = .ok (.iinc 6 1, 3) := dc_iinc (m := 1) (by decide +kernel)
theorem dX2_caseAtRank_100 : decode cX2_caseAtRank 100 = .ok (.goto (-65), 3) := dcs_167 (n := 65471) (by decide +kernel)
theorem dX2_caseAtRank_103 : decode cX2_caseAtRank 103 = .ok (.aload_n 0, 1) := dc1_42 (by decide +kernel)
theorem dX2_caseAtRank_104 : decode cX2_caseAtRank 104 = .ok (.getfield 18, 3) := dcw_180 (by decide +kernel)
theorem dX2_caseAtRank_107 : decode cX2_caseAtRank 107 = .ok (.iload_n 2, 1) := dc1_28 (by decide +kernel)
theorem dX2_caseAtRank_108 : decode cX2_caseAtRank 108 = .ok (.iaload, 1) := dc1_46 (by decide +kernel)
theorem dX2_caseAtRank_109 : decode cX2_caseAtRank 109 = .ok (.ireturn, 1) := dc1_172 (by decide +kernel)
theorem ggX2_unfind_X10_has : GoodIn wsX2_unfind wsX10_has := gi_sub (fun w h => List.mem_cons_of_mem _ (List.mem_append_left _ (List.mem_append_left _ (List.mem_append_left _ (List.mem_append_right _ h))))) gd_wsX10_has
set_option maxRecDepth 20000 in
theorem gX2_unfind_X10_has_n57 : GoodIn wsX2_unfind (wsX10_has) := ggX2_unfind_X10_has
theorem dX2_unfind_0 : decode cX2_unfind 0 = .ok (.iconst 0, 1) := dc1_3 (by decide +kernel)
theorem dX2_unfind_1 : decode cX2_unfind 1 = .ok (.istore_n 3, 1) := dc1_62 (by decide +kernel)
theorem dX2_unfind_2 : decode cX2_unfind 2 = .ok (.iload_n 3, 1) := dc1_29 (by decide +kernel)
theorem dX2_unfind_3 : decode cX2_unfind 3 = .ok (.aload_n 0, 1) := dc1_42 (by decide +kernel)
theorem dX2_unfind_4 : decode cX2_unfind 4 = .ok (.getfield 24, 3) := dcw_180 (by decide +kernel)
theorem dX2_unfind_7 : decode cX2_unfind 7 = .ok (.getfield 44, 3) := dcw_180 (by decide +kernel)
theorem dX2_unfind_10 : decode cX2_unfind 10 = .ok (.if_icmp .ge 24, 3) := dcs_162 (n := 24) (by decide +kernel)
theorem dX2_unfind_13 : decode cX2_unfind 13 = .ok (.iload_n 2, 1) := dc1_28 (by decide +kernel)
theorem dX2_unfind_14 : decode cX2_unfind 14 = .ok (.iload_n 3, 1) := dc1_29 (by decide +kernel)
theorem dX2_unfind_15 : decode cX2_unfind 15 = .ok (.invokestatic 57, 3) := dcw_184 (by decide +kernel)
theorem dX2_unfind_18 : decode cX2_unfind 18 = .ok (.ifCond .eq 10, 3) := dcs_153 (n := 10) (by decide +kernel)
theorem dX2_unfind_21 : decode cX2_unfind 21 = .ok (.aload_n 1, 1) := dc1_43 (by decide +kernel)
theorem dX2_unfind_22 : decode cX2_unfind 22 = .ok (.getfield 128, 3) := dcw_180 (by decide +kernel)
theorem dX2_unfind_25 : decode cX2_unfind 25 = .ok (.iload_n 3, 1) := dc1_29 (by decide +kernel)
theorem dX2_unfind_26 : decode cX2_unfind 26 = .ok (.iconst (-1), 1) := dc1_2 (by decide +kernel)
theorem dX2_unfind_27 : decode cX2_unfind 27 = .ok (.iastore, 1) := dc1_79 (by decide +kernel)
theorem dX2_unfind_28 : decode cX2_unfind 28 = .ok (.iinc 3 1, 3) := dc_iinc (m := 1) (by decide +kernel)
theorem dX2_unfind_31 : decode cX2_unfind 31 = .ok (.goto (-29), 3) := dcs_167 (n := 65507) (by decide +kernel)
theorem dX2_unfind_34 : decode cX2_unfind 34 = .ok (.return_, 1) := dc1_177 (by decide +kernel)
theorem ggX4_readParty_X4_fail : GoodIn wsX4_readParty wsX4_fail := gi_sub (fun w h => List.mem_cons_of_mem _ (List.mem_append_left _ (List.mem_append_left _ (List.mem_append_left _ (List.mem_append_right _ (List.mem_append_left _ h)))))) gd_wsX4_fail
set_option maxRecDepth 20000 in
theorem gX4_readParty_X4_fail : GoodIn wsX4_readParty (wsV RX4 70 RX4 yX4_fail wsX4_fail) := goodIn_app (goodIn_r _ [5, 6, 7, 8] (by decide +kernel) (by decide +kernel)) ggX4_readParty_X4_fail
theorem ggX4_readParty_X4_take : GoodIn wsX4_readParty wsX4_take := gi_sub (fun w h => List.mem_cons_of_mem _ (List.mem_append_left _ (List.mem_append_left _ (List.mem_append_left _ (List.mem_append_right _ (List.mem_append_right _ (List.mem_append_left _ h))))))) gd_wsX4_take
set_option maxRecDepth 20000 in
theorem gX4_readParty_X4_take : GoodIn wsX4_readParty (wsV RX4 81 RX4 yX4_take wsX4_take) := goodIn_app (goodIn_r _ [9, 10, 11, 8] (by decide +kernel) (by decide +kernel)) ggX4_readParty_X4_take
theorem ggX4_readParty_X4_isAt : GoodIn wsX4_readParty wsX4_isAt := gi_sub (fun w h => List.mem_cons_of_mem _ (List.mem_append_left _ (List.mem_append_left _ (List.mem_append_left _ (List.mem_append_right _ (List.mem_append_right _ (List.mem_append_right _ (List.mem_append_left _ h)))))))) gd_wsX4_isAt
set_option maxRecDepth 20000 in
theorem gX4_readParty_X4_isAt : GoodIn wsX4_readParty (wsV RX4 53 RX4 yX4_isAt wsX4_isAt) := goodIn_app (goodIn_r _ [12, 13, 14, 8] (by decide +kernel) (by decide +kernel)) ggX4_readParty_X4_isAt
theorem ggX4_readParty_X4_isTold : GoodIn wsX4_readParty wsX4_isTold := gi_sub (fun w h => List.mem_cons_of_mem _ (List.mem_append_left _ (List.mem_append_left _ (List.mem_append_left _ (List.mem_append_right _ (List.mem_append_right _ (List.mem_append_right _ (List.mem_append_right _ (List.mem_append_left _ h))))))))) gd_wsX4_isTold
set_option maxRecDepth 20000 in
theorem gX4_readParty_X4_isTold : GoodIn wsX4_readParty (wsV RX4 109 RX4 yX4_isTold wsX4_isTold) := goodIn_app (goodIn_r _ [15, 16, 17, 8] (by decide +kernel) (by decide +kernel)) ggX4_readParty_X4_isTold
theorem ggX4_readParty_X4_failLater : GoodIn wsX4_readParty wsX4_failLater := gi_sub (fun w h => List.mem_cons_of_mem _ (List.mem_append_left _ (List.mem_append_left _ (List.mem_append_left _ (List.mem_append_right _ (List.mem_append_right _ (List.mem_append_right _ (List.mem_append_right _ (List.mem_append_right _ (List.mem_append_left _ h)))))))))) gd_wsX4_failLater
set_option maxRecDepth 20000 in
theorem gX4_readParty_X4_failLater : GoodIn wsX4_readParty (wsV RX4 77 RX4 yX4_failLater wsX4_failLater) := goodIn_app (goodIn_r _ [18, 19, 20, 8] (by decide +kernel) (by decide +kernel)) ggX4_readParty_X4_failLater
theorem ggX4_readParty_X4_takeInt : GoodIn wsX4_readParty wsX4_takeInt := gi_sub (fun w h => List.mem_cons_of_mem _ (List.mem_append_left _ (List.mem_append_left _ (List.mem_append_left _ (List.mem_append_right _ (List.mem_append_right _ (List.mem_append_right _ (List.mem_append_right _ (List.mem_append_right _ (List.mem_append_right _ h)))))))))) gd_wsX4_takeInt
set_option maxRecDepth 20000 in
theorem gX4_readParty_X4_takeInt : GoodIn wsX4_readParty (wsV RX4 90 RX4 yX4_takeInt wsX4_takeInt) := goodIn_app (goodIn_r _ [21, 22, 23, 8] (by decide +kernel) (by decide +kernel)) ggX4_readParty_X4_takeInt
theorem dX4_readParty_0 : decode cX4_readParty 0 = .ok (.aload_n 0, 1) := dc1_42 (by decide +kernel)
theorem dX4_readParty_1 : decode cX4_readParty 1 = .ok (.getfield 12, 3) := dcw_180 (by decide +kernel)
theorem dX4_readParty_4 : decode cX4_readParty 4 = .ok (.getfield 106, 3) := dcw_180 (by decide +kernel)
theorem dX4_readParty_7 : decode cX4_readParty 7 = .ok (.bipush 6, 2) := dcb_16 (n := 6) (by decide +kernel)
theorem dX4_readParty_9 : decode cX4_readParty 9 = .ok (.if_icmp .lt 9, 3) := dcs_161 (n := 9) (by decide +kernel)
theorem dX4_readParty_12 : decode cX4_readParty 12 = .ok (.aload_n 0, 1) := dc1_42 (by decide +kernel)
theorem dX4_readParty_13 : decode cX4_readParty 13 = .ok (.iconst 2, 1) := dc1_5 (by decide +kernel)
theorem dX4_readParty_14 : decode cX4_readParty 14 = .ok (.invokevirtual 70, 3) := dcw_182 (by decide +kernel)
theorem dX4_readParty_17 : decode cX4_readParty 17 = .ok (.return_, 1) := dc1_177 (by decide +kernel)
theorem dX4_readParty_18 : decode cX4_readParty 18 = .ok (.aload_n 0, 1) := dc1_42 (by decide +kernel)
theorem dX4_readParty_19 : decode cX4_readParty 19 = .ok (.sipush 257, 3) := dcs_17 (n := 257) (by decide +kernel)
theorem dX4_readParty_22 : decode cX4_readParty 22 = .ok (.invokevirtual 81, 3) := dcw_182 (by decide +kernel)
theorem dX4_readParty_25 : decode cX4_readParty 25 = .ok (.aload_n 0, 1) := dc1_42 (by decide +kernel)
theorem dX4_readParty_26 : decode cX4_readParty 26 = .ok (.getfield 31, 3) := dcw_180 (by decide +kernel)
theorem dX4_readParty_29 : decode cX4_readParty 29 = .ok (.getfield 74, 3) := dcw_180 (by decide +kernel)
theorem dX4_readParty_32 : decode cX4_readParty 32 = .ok (.aload_n 0, 1) := dc1_42 (by decide +kernel)
theorem dX4_readParty_33 : decode cX4_readParty 33 = .ok (.getfield 38, 3) := dcw_180 (by decide +kernel)
theorem dX4_readParty_36 : decode cX4_readParty 36 = .ok (.laload, 1) := dc1_47 (by decide +kernel)
theorem dX4_readParty_37 : decode cX4_readParty 37 = .ok (.lstore_n 1, 1) := dc1_64 (by decide +kernel)
theorem dX4_readParty_38 : decode cX4_readParty 38 = .ok (.aload_n 0, 1) := dc1_42 (by decide +kernel)
theorem dX4_readParty_39 : decode cX4_readParty 39 = .ok (.sipush 300, 3) := dcs_17 (n := 300) (by decide +kernel)
theorem dX4_readParty_42 : decode cX4_readParty 42 = .ok (.invokevirtual 53, 3) := dcw_182 (by decide +kernel)
theorem dX4_readParty_45 : decode cX4_readParty 45 = .ok (.ifCond .eq 28, 3) := dcs_153 (n := 28) (by decide +kernel)
theorem dX4_readParty_48 : decode cX4_readParty 48 = .ok (.aload_n 0, 1) := dc1_42 (by decide +kernel)
theorem dX4_readParty_49 : decode cX4_readParty 49 = .ok (.lload_n 1, 1) := dc1_31 (by decide +kernel)
theorem dX4_readParty_50 : decode cX4_readParty 50 = .ok (.invokevirtual 109, 3) := dcw_182 (by decide +kernel)
theorem dX4_readParty_53 : decode cX4_readParty 53 = .ok (.ifCond .eq 20, 3) := dcs_153 (n := 20) (by decide +kernel)
theorem dX4_readParty_56 : decode cX4_readParty 56 = .ok (.aload_n 0, 1) := dc1_42 (by decide +kernel)
theorem dX4_readParty_57 : decode cX4_readParty 57 = .ok (.iconst 3, 1) := dc1_6 (by decide +kernel)
theorem dX4_readParty_58 : decode cX4_readParty 58 = .ok (.aload_n 0, 1) := dc1_42 (by decide +kernel)
theorem dX4_readParty_59 : decode cX4_readParty 59 = .ok (.getfield 31, 3) := dcw_180 (by decide +kernel)
theorem dX4_readParty_62 : decode cX4_readParty 62 = .ok (.getfield 67, 3) := dcw_180 (by decide +kernel)
theorem dX4_readParty_65 : decode cX4_readParty 65 = .ok (.aload_n 0, 1) := dc1_42 (by decide +kernel)
theorem dX4_readParty_66 : decode cX4_readParty 66 = .ok (.getfield 38, 3) := dcw_180 (by decide +kernel)
theorem dX4_readParty_69 : decode cX4_readParty 69 = .ok (.iaload, 1) := dc1_46 (by decide +kernel)
theorem dX4_readParty_70 : decode cX4_readParty 70 = .ok (.invokevirtual 77, 3) := dcw_182 (by decide +kernel)
theorem dX4_readParty_73 : decode cX4_readParty 73 = .ok (.aload_n 0, 1) := dc1_42 (by decide +kernel)
theorem dX4_readParty_74 : decode cX4_readParty 74 = .ok (.sipush 300, 3) := dcs_17 (n := 300) (by decide +kernel)
theorem dX4_readParty_77 : decode cX4_readParty 77 = .ok (.invokevirtual 81, 3) := dcw_182 (by decide +kernel)
theorem dX4_readParty_80 : decode cX4_readParty 80 = .ok (.aload_n 0, 1) := dc1_42 (by decide +kernel)
theorem dX4_readParty_81 : decode cX4_readParty 81 = .ok (.getfield 18, 3) := dcw_180 (by decide +kernel)
theorem dX4_readParty_84 : decode cX4_readParty 84 = .ok (.aload_n 0, 1) := dc1_42 (by decide +kernel)
theorem dX4_readParty_85 : decode cX4_readParty 85 = .ok (.getfield 12, 3) := dcw_180 (by decide +kernel)
theorem dX4_readParty_88 : decode cX4_readParty 88 = .ok (.getfield 106, 3) := dcw_180 (by decide +kernel)
theorem dX4_readParty_91 : decode cX4_readParty 91 = .ok (.lload_n 1, 1) := dc1_31 (by decide +kernel)
theorem dX4_readParty_92 : decode cX4_readParty 92 = .ok (.lastore, 1) := dc1_80 (by decide +kernel)
theorem dX4_readParty_93 : decode cX4_readParty 93 = .ok (.aload_n 0, 1) := dc1_42 (by decide +kernel)
theorem dX4_readParty_94 : decode cX4_readParty 94 = .ok (.getfield 12, 3) := dcw_180 (by decide +kernel)
theorem dX4_readParty_97 : decode cX4_readParty 97 = .ok (.getfield 113, 3) := dcw_180 (by decide +kernel)
theorem dX4_readParty_100 : decode cX4_readParty 100 = .ok (.aload_n 0, 1) := dc1_42 (by decide +kernel)
theorem dX4_readParty_101 : decode cX4_readParty 101 = .ok (.getfield 12, 3) := dcw_180 (by decide +kernel)
theorem dX4_readParty_104 : decode cX4_readParty 104 = .ok (.getfield 106, 3) := dcw_180 (by decide +kernel)
theorem dX4_readParty_107 : decode cX4_readParty 107 = .ok (.aload_n 0, 1) := dc1_42 (by decide +kernel)
theorem dX4_readParty_108 : decode cX4_readParty 108 = .ok (.bipush 9, 2) := dcb_16 (n := 9) (by decide +kernel)
theorem dX4_readParty_110 : decode cX4_readParty 110 = .ok (.invokevirtual 90, 3) := dcw_182 (by decide +kernel)
theorem dX4_readParty_113 : decode cX4_readParty 113 = .ok (.iastore, 1) := dc1_79 (by decide +kernel)
theorem dX4_readParty_114 : decode cX4_readParty 114 = .ok (.aload_n 0, 1) := dc1_42 (by decide +kernel)
theorem dX4_readParty_115 : decode cX4_readParty 115 = .ok (.getfield 12, 3) := dcw_180 (by decide +kernel)
theorem dX4_readParty_118 : decode cX4_readParty 118 = .ok (.getfield 116, 3) := dcw_180 (by decide +kernel)
theorem dX4_readParty_121 : decode cX4_readParty 121 = .ok (.aload_n 0, 1) := dc1_42 (by decide +kernel)
theorem dX4_readParty_122 : decode cX4_readParty 122 = .ok (.getfield 12, 3) := dcw_180 (by decide +kernel)
theorem dX4_readParty_125 : decode cX4_readParty 125 = .ok (.getfield 106, 3) := dcw_180 (by decide +kernel)
theorem dX4_readParty_128 : decode cX4_readParty 128 = .ok (.aload_n 0, 1) := dc1_42 (by decide +kernel)
theorem dX4_readParty_129 : decode cX4_readParty 129 = .ok (.bipush 9, 2) := dcb_16 (n := 9) (by decide +kernel)
theorem dX4_readParty_131 : decode cX4_readParty 131 = .ok (.invokevirtual 90, 3) := dcw_182 (by decide +kernel)
theorem dX4_readParty_134 : decode cX4_readParty 134 = .ok (.iastore, 1) := dc1_79 (by decide +kernel)
theorem dX4_readParty_135 : decode cX4_readParty 135 = .ok (.aload_n 0, 1) := dc1_42 (by decide +kernel)
theorem dX4_readParty_136 : decode cX4_readParty 136 = .ok (.bipush 59, 2) := dcb_16 (n := 59) (by decide +kernel)
theorem dX4_readParty_138 : decode cX4_readParty 138 = .ok (.invokevirtual 81, 3) := dcw_182 (by decide +kernel)
theorem dX4_readParty_141 : decode cX4_readParty 141 = .ok (.aload_n 0, 1) := dc1_42 (by decide +kernel)
theorem dX4_readParty_142 : decode cX4_readParty 142 = .ok (.getfield 12, 3) := dcw_180 (by decide +kernel)
theorem dX4_readParty_145 : decode cX4_readParty 145 = .ok (.dup, 1) := dc1_89 (by decide +kernel)
theorem dX4_readParty_146 : decode cX4_readParty 146 = .ok (.getfield 106, 3) := dcw_180 (by decide +kernel)
theorem dX4_readParty_149 : decode cX4_readParty 149 = .ok (.iconst 1, 1) := dc1_4 (by decide +kernel)
theorem dX4_readParty_150 : decode cX4_readParty 150 = .ok (.iadd, 1) := dc1_96 (by decide +kernel)
theorem dX4_readParty_151 : decode cX4_readParty 151 = .ok (.putfield 106, 3) := dcw_181 (by decide +kernel)
theorem dX4_readParty_154 : decode cX4_readParty 154 = .ok (.return_, 1) := dc1_177 (by decide +kernel)
theorem LX2_fillNear_24 : Cond.fieldLink RX2 24 "GuessFerry$Outlook" "sound" "LGuessFerry$Sound;" ∈ wsX2_fillNear := by decide +kernel
theorem LX2_fillNear_9 : Cond.fieldLink RX2 9 "GuessFerry$Outlook" "near" "[I" ∈ wsX2_fillNear := by decide +kernel
theorem LX2_fillNear_M87 : Cond.methodLink RX2 87 Lib.Math.min.name ∈ wsX2_fillNear := by decide +kernel
theorem LX2_fillNear_MCmin : Cond.code Lib.Math.min.name Lib.Math.min.code 2 (some .int) ∈ wsX2_fillNear := by decide +kernel
theorem LX2_fillNear_MI : Cond.initialized "java/lang/Math" ∈ wsX2_fillNear := by decide +kernel
theorem LX2_fillNear_MSmin : Cond.static Lib.Math.min.name ∈ wsX2_fillNear := by decide +kernel
theorem inX2_fillNear_X2 : ∀ w ∈ u_ws RX2 TX2 6, w ∈ wsX2_fillNear := by decide +kernel
theorem inX2_fillNear_X5 : ∀ w ∈ u_ws RX5 TX5 10, w ∈ wsX2_fillNear := by decide +kernel
set_option maxHeartbeats 4000000 in
set_option maxRecDepth 100000 in
theorem bkX2_fillNear {l : Launch} {dC : Nat → ClassId} {dI : Nat → Nat → Nat} {cB cI cJ cZ cS : ClassId} {a b : Nat → Nat} {as : List Value} {r : Int32} {s' : JS} (s : JS) (hB : kX2_fillNear s = some (r, s')) : BlkI l yX2_fillNear wsX2_fillNear ({ frames := 3, cells := 0, slots := 0, locals := 74 }) cX2_fillNear 2 (some .int) (dC, dI) (tysA cB cI cJ cZ cS) as 0 (wJ cB cI cJ cZ cS a b s) [(0, .ref (a 36)), (1, .ref (b 0))] [] (fun x u => x = r ∧ u = (wJ cB cI cJ cZ cS a b s')) := by
  intro p e s0 m below meth c A E H locs ls hP hD hS hl
  obtain ⟨C, hr, hlocks, hA, hK, hN⟩ := id E
  obtain ⟨hx, hb, hml, hown, hts⟩ := id C
  unfold kX2_fillNear at hB
  refine lv_aload_n hx hb dX2_fillNear_0 rfl (lv_at hl 0 rfl) ?_
  refine lv_aload_n hx hb dX2_fillNear_1 rfl (lv_at hl 1 rfl) ?_
  refine lv_aload_n hx hb dX2_fillNear_2 rfl (lv_at hl 0 rfl) ?_
  refine q_get (v := .ref (a 37)) C inX2_fillNear_X2 hK hP 42 rfl rfl 2 (by decide) rfl LX2_fillNear_9 rfl dX2_fillNear_3 ?_
  refine lv_iconst (v := 0) hx hb dX2_fillNear_6 (by decide) ?_
  refine lv_iconst (v := 3) hx hb dX2_fillNear_7 (by decide) ?_
  refine lv_aload_n hx hb dX2_fillNear_8 rfl (lv_at hl 0 rfl) ?_
  refine q_get (v := .ref (a 2)) C inX2_fillNear_X2 hK hP 42 rfl rfl 0 (by decide) rfl LX2_fillNear_24 rfl dX2_fillNear_9 ?_
  refine q_getN (v := .int (s.k.v 1)) C hN inX2_fillNear_X5 hK hP 8 rfl rfl 6 (by decide) rfl nwF_X2_44 rfl dX2_fillNear_12 ?_
  refine va_mmin hx hb (hml.trans hl.1.symm) hown (hts _ LX2_fillNear_M87) (hts _ LX2_fillNear_MSmin) (hts _ LX2_fillNear_MI) (hts _ LX2_fillNear_MCmin) (Nat.le_of_ble_eq_true rfl) (Nat.le_of_ble_eq_true rfl) (Nat.zero_le _) (Nat.zero_le _) dX2_fillNear_15 ?_
  refine q_top (y := (mmin 3 (s.k.v 1))) rfl ?_
  obtain ⟨q_, s1, hc, hB⟩ := bindI_inv hB
  refine q_goiF (va_runV (As := [.ref (b 0), .ref (a 37), .int 0, .int (mmin 3 (s.k.v 1))]) (rest := []) C (ckX2_fillRow_near hc _) (cwV 4 hts gX2_fillNear_X2_fillRow rfl rfl rfl (by decide +kernel) ⟨Nat.le_of_ble_eq_true rfl, Nat.le_of_ble_eq_true rfl⟩) (q_preV hK hP (ci := 2) (q0 := 42) rfl rfl rfl (q_preF hN hK hP hD)) rfl rfl hl.1 rfl (lv_room (Nat.le_of_ble_eq_true rfl)) dX2_fillNear_18 ⟨Nat.le_of_ble_eq_true rfl, Nat.le_of_ble_eq_true rfl⟩) hD hS hA (fun r2 w1 H locs hw hP hD hS => ?_)
  obtain ⟨hq_, hw⟩ := hw; subst hw; subst hq_
  exact q_iret C hr hlocks hK hP hD hS (Nat.le_of_ble_eq_true rfl) (Nat.le_of_ble_eq_true rfl) dX2_fillNear_21 (by cases hB; exact ⟨rfl, rfl⟩)
theorem ckX2_fillNear {l : Launch} {dC : Nat → ClassId} {dI : Nat → Nat → Nat} {cB cI cJ cZ cS : ClassId} {a b : Nat → Nat} {r : Int32} {s' : JS} {s : JS} (hB : kX2_fillNear s = some (r, s')) : CI l yX2_fillNear wsX2_fillNear ({ frames := 3, cells := 0, slots := 0, locals := 74 }) (dC, dI) (tysA cB cI cJ cZ cS) (wJ cB cI cJ cZ cS a b s) [.ref (a 36), .ref (b 0)] (fun x u => x = r ∧ u = (wJ cB cI cJ cZ cS a b s')) :=
  CI_of (cc := cX2_fillNear) (maxL := 2) (ret := (some .int)) (by decide) rfl (Nat.le_of_ble_eq_true rfl) (bkX2_fillNear _ hB)
theorem LX2_fillFar_15 : Cond.fieldLink RX2 15 "GuessFerry$Outlook" "far" "[I" ∈ wsX2_fillFar := by decide +kernel
theorem LX2_fillFar_24 : Cond.fieldLink RX2 24 "GuessFerry$Outlook" "sound" "LGuessFerry$Sound;" ∈ wsX2_fillFar := by decide +kernel
theorem inX2_fillFar_X2 : ∀ w ∈ u_ws RX2 TX2 6, w ∈ wsX2_fillFar := by decide +kernel
theorem inX2_fillFar_X5 : ∀ w ∈ u_ws RX5 TX5 10, w ∈ wsX2_fillFar := by decide +kernel
set_option maxHeartbeats 4000000 in
set_option maxRecDepth 100000 in
theorem bkX2_fillFar {l : Launch} {dC : Nat → ClassId} {dI : Nat → Nat → Nat} {cB cI cJ cZ cS : ClassId} {a b : Nat → Nat} {as : List Value} {r : Int32} {s' : JS} (s : JS) (hB : kX2_fillFar s = some (r, s')) : BlkI l yX2_fillFar wsX2_fillFar ({ frames := 3, cells := 0, slots := 0, locals := 74 }) cX2_fillFar 2 (some .int) (dC, dI) (tysA cB cI cJ cZ cS) as 0 (wJ cB cI cJ cZ cS a b s) [(0, .ref (a 36)), (1, .ref (b 0))] [] (fun x u => x = r ∧ u = (wJ cB cI cJ cZ cS a b s')) := by
  intro p e s0 m below meth c A E H locs ls hP hD hS hl
  obtain ⟨C, hr, hlocks, hA, hK, hN⟩ := id E
  obtain ⟨hx, hb, hml, hown, hts⟩ := id C
  unfold kX2_fillFar at hB
  refine lv_aload_n hx hb dX2_fillFar_0 rfl (lv_at hl 0 rfl) ?_
  refine lv_aload_n hx hb dX2_fillFar_1 rfl (lv_at hl 1 rfl) ?_
  refine lv_aload_n hx hb dX2_fillFar_2 rfl (lv_at hl 0 rfl) ?_
  refine q_get (v := .ref (a 38)) C inX2_fillFar_X2 hK hP 42 rfl rfl 3 (by decide) rfl LX2_fillFar_15 rfl dX2_fillFar_3 ?_
  refine lv_iconst (v := 3) hx hb dX2_fillFar_6 (by decide) ?_
  refine lv_aload_n hx hb dX2_fillFar_7 rfl (lv_at hl 0 rfl) ?_
  refine q_get (v := .ref (a 2)) C inX2_fillFar_X2 hK hP 42 rfl rfl 0 (by decide) rfl LX2_fillFar_24 rfl dX2_fillFar_8 ?_
  refine q_getN (v := .int (s.k.v 1)) C hN inX2_fillFar_X5 hK hP 8 rfl rfl 6 (by decide) rfl nwF_X2_44 rfl dX2_fillFar_11 ?_
  obtain ⟨q_, s1, hc, hB⟩ := bindI_inv hB
  refine q_goiF (va_runV (As := [.ref (b 0), .ref (a 38), .int 3, .int (s.k.v 1)]) (rest := []) C (ckX2_fillRow_far hc _) (cwV 4 hts gX2_fillFar_X2_fillRow rfl rfl rfl (by decide +kernel) ⟨Nat.le_of_ble_eq_true rfl, Nat.le_of_ble_eq_true rfl⟩) (q_preV hK hP (ci := 2) (q0 := 42) rfl rfl rfl (q_preF hN hK hP hD)) rfl rfl hl.1 rfl (lv_room (Nat.le_of_ble_eq_true rfl)) dX2_fillFar_14 ⟨Nat.le_of_ble_eq_true rfl, Nat.le_of_ble_eq_true rfl⟩) hD hS hA (fun r2 w1 H locs hw hP hD hS => ?_)
  obtain ⟨hq_, hw⟩ := hw; subst hw; subst hq_
  exact q_iret C hr hlocks hK hP hD hS (Nat.le_of_ble_eq_true rfl) (Nat.le_of_ble_eq_true rfl) dX2_fillFar_17 (by cases hB; exact ⟨rfl, rfl⟩)
theorem ckX2_fillFar {l : Launch} {dC : Nat → ClassId} {dI : Nat → Nat → Nat} {cB cI cJ cZ cS : ClassId} {a b : Nat → Nat} {r : Int32} {s' : JS} {s : JS} (hB : kX2_fillFar s = some (r, s')) : CI l yX2_fillFar wsX2_fillFar ({ frames := 3, cells := 0, slots := 0, locals := 74 }) (dC, dI) (tysA cB cI cJ cZ cS) (wJ cB cI cJ cZ cS a b s) [.ref (a 36), .ref (b 0)] (fun x u => x = r ∧ u = (wJ cB cI cJ cZ cS a b s')) :=
  CI_of (cc := cX2_fillFar) (maxL := 2) (ret := (some .int)) (by decide) rfl (Nat.le_of_ble_eq_true rfl) (bkX2_fillFar _ hB)
theorem LX2_casesAheadOf_15 : Cond.fieldLink RX2 15 "GuessFerry$Outlook" "far" "[I" ∈ wsX2_casesAheadOf := by decide +kernel
theorem LX2_casesAheadOf_9 : Cond.fieldLink RX2 9 "GuessFerry$Outlook" "near" "[I" ∈ wsX2_casesAheadOf := by decide +kernel
theorem inX2_casesAheadOf_X2 : ∀ w ∈ u_ws RX2 TX2 6, w ∈ wsX2_casesAheadOf := by decide +kernel
set_option maxHeartbeats 4000000 in
set_option maxRecDepth 100000 in
theorem bkX2_casesAheadOf_78 {l : Launch} {dC : Nat → ClassId} {dI : Nat → Nat → Nat} {cB cI cJ cZ cS : ClassId} {a b : Nat → Nat} {as : List Value} {r : Int32} {s' : JS} {k23 : JS → Int32 → Int32 → Int32 → Int32 → Int32 → Int32 → Int32 → Option (Int32 × JS)} {k33 : JS → Int32 → Int32 → Int32 → Int32 → Int32 → Int32 → Int32 → Int32 → Option (Int32 × JS)} (hk23 : ∀ (s : JS) (x2 : Int32) (x3 : Int32) (x4 : Int32) (x5 : Int32) (x6 : Int32) (x7 : Int32) (x8 : Int32), k23 s x2 x3 x4 x5 x6 x7 x8 = some (r, s') → BlkI l yX2_casesAheadOf wsX2_casesAheadOf ({ frames := 4, cells := 0, slots := 0, locals := 95 }) cX2_casesAheadOf 11 (some .int) (dC, dI) (tysA cB cI cJ cZ cS) as 23 (wJ cB cI cJ cZ cS a b s) [(0, .ref (a 36)), (2, .int x2), (3, .int x3), (4, .int x4), (5, .int x5), (6, .int x6), (7, .int x7), (8, .int x8)] [] (fun x u => x = r ∧ u = (wJ cB cI cJ cZ cS a b s'))) (hk33 : ∀ (s : JS) (x2 : Int32) (x3 : Int32) (x4 : Int32) (x5 : Int32) (x6 : Int32) (x7 : Int32) (x8 : Int32) (x9 : Int32), k33 s x2 x3 x4 x5 x6 x7 x8 x9 = some (r, s') → BlkI l yX2_casesAheadOf wsX2_casesAheadOf ({ frames := 4, cells := 0, slots := 0, locals := 95 }) cX2_casesAheadOf 11 (some .int) (dC, dI) (tysA cB cI cJ cZ cS) as 33 (wJ cB cI cJ cZ cS a b s) [(0, .ref (a 36)), (2, .int x2), (3, .int x3), (4, .int x4), (5, .int x5), (6, .int x6), (7, .int x7), (8, .int x8), (9, .int x9)] [] (fun x u => x = r ∧ u = (wJ cB cI cJ cZ cS a b s'))) (s : JS) (x2 : Int32) (x3 : Int32) (x4 : Int32) (x5 : Int32) (x6 : Int32) (x7 : Int32) (x8 : Int32) (x9 : Int32) (hB : kX2_casesAheadOf_78 k23 k33 s x2 x3 x4 x5 x6 x7 x8 x9 = some (r, s')) : BlkI l yX2_casesAheadOf wsX2_casesAheadOf ({ frames := 4, cells := 0, slots := 0, locals := 95 }) cX2_casesAheadOf 11 (some .int) (dC, dI) (tysA cB cI cJ cZ cS) as 78 (wJ cB cI cJ cZ cS a b s) [(0, .ref (a 36)), (2, .int x2), (3, .int x3), (4, .int x4), (5, .int x5), (6, .int x6), (7, .int x7), (8, .int x8), (9, .int x9)] [] (fun x u => x = r ∧ u = (wJ cB cI cJ cZ cS a b s')) := by
  intro p e s0 m below meth c A E H locs ls hP hD hS hl
  obtain ⟨C, hr, hlocks, hA, hK, hN⟩ := id E
  obtain ⟨hx, hb, hml, hown, hts⟩ := id C
  unfold kX2_casesAheadOf_78 at hB
  refine lv_iinc (v := (x7 + 1)) (lv' := [(7, .int (x7 + 1)), (0, .ref (a 36)), (2, .int x2), (3, .int x3), (4, .int x4), (5, .int x5), (6, .int x6), (8, .int x8), (9, .int x9)]) hx hb dX2_casesAheadOf_78 hl (k := 6) rfl (rfl) (by decide) rfl (fun ls hl => ?_)
  refine lv_iinc (v := (x9 + 1)) (lv' := [(9, .int (x9 + 1)), (7, .int (x7 + 1)), (0, .ref (a 36)), (2, .int x2), (3, .int x3), (4, .int x4), (5, .int x5), (6, .int x6), (8, .int x8)]) hx hb dX2_casesAheadOf_81 hl (k := 8) rfl (rfl) (by decide) rfl (fun ls hl => ?_)
  refine lv_goto (tgt := 33) hx hb dX2_casesAheadOf_84 (by decide) ?_
  exact hk33 _ _ _ _ _ _ _ _ _ hB p e s0 m below meth c A E H locs ls hP hD hS (lv_sub hl [2, 3, 4, 5, 6, 7, 1, 8, 0] rfl)
set_option maxHeartbeats 4000000 in
set_option maxRecDepth 100000 in
theorem bkX2_casesAheadOf_75 {l : Launch} {dC : Nat → ClassId} {dI : Nat → Nat → Nat} {cB cI cJ cZ cS : ClassId} {a b : Nat → Nat} {as : List Value} {r : Int32} {s' : JS} {k23 : JS → Int32 → Int32 → Int32 → Int32 → Int32 → Int32 → Int32 → Option (Int32 × JS)} {k33 : JS → Int32 → Int32 → Int32 → Int32 → Int32 → Int32 → Int32 → Int32 → Option (Int32 × JS)} (hk23 : ∀ (s : JS) (x2 : Int32) (x3 : Int32) (x4 : Int32) (x5 : Int32) (x6 : Int32) (x7 : Int32) (x8 : Int32), k23 s x2 x3 x4 x5 x6 x7 x8 = some (r, s') → BlkI l yX2_casesAheadOf wsX2_casesAheadOf ({ frames := 4, cells := 0, slots := 0, locals := 95 }) cX2_casesAheadOf 11 (some .int) (dC, dI) (tysA cB cI cJ cZ cS) as 23 (wJ cB cI cJ cZ cS a b s) [(0, .ref (a 36)), (2, .int x2), (3, .int x3), (4, .int x4), (5, .int x5), (6, .int x6), (7, .int x7), (8, .int x8)] [] (fun x u => x = r ∧ u = (wJ cB cI cJ cZ cS a b s'))) (hk33 : ∀ (s : JS) (x2 : Int32) (x3 : Int32) (x4 : Int32) (x5 : Int32) (x6 : Int32) (x7 : Int32) (x8 : Int32) (x9 : Int32), k33 s x2 x3 x4 x5 x6 x7 x8 x9 = some (r, s') → BlkI l yX2_casesAheadOf wsX2_casesAheadOf ({ frames := 4, cells := 0, slots := 0, locals := 95 }) cX2_casesAheadOf 11 (some .int) (dC, dI) (tysA cB cI cJ cZ cS) as 33 (wJ cB cI cJ cZ cS a b s) [(0, .ref (a 36)), (2, .int x2), (3, .int x3), (4, .int x4), (5, .int x5), (6, .int x6), (7, .int x7), (8, .int x8), (9, .int x9)] [] (fun x u => x = r ∧ u = (wJ cB cI cJ cZ cS a b s'))) (s : JS) (x2 : Int32) (x3 : Int32) (x4 : Int32) (x5 : Int32) (x6 : Int32) (x7 : Int32) (x8 : Int32) (x9 : Int32) (hB : kX2_casesAheadOf_75 k23 k33 s x2 x3 x4 x5 x6 x7 x8 x9 = some (r, s')) : BlkI l yX2_casesAheadOf wsX2_casesAheadOf ({ frames := 4, cells := 0, slots := 0, locals := 95 }) cX2_casesAheadOf 11 (some .int) (dC, dI) (tysA cB cI cJ cZ cS) as 75 (wJ cB cI cJ cZ cS a b s) [(0, .ref (a 36)), (2, .int x2), (3, .int x3), (4, .int x4), (5, .int x5), (6, .int x6), (7, .int x7), (8, .int x8), (9, .int x9)] [] (fun x u => x = r ∧ u = (wJ cB cI cJ cZ cS a b s')) := by
  intro p e s0 m below meth c A E H locs ls hP hD hS hl
  obtain ⟨C, hr, hlocks, hA, hK, hN⟩ := id E
  obtain ⟨hx, hb, hml, hown, hts⟩ := id C
  unfold kX2_casesAheadOf_75 at hB
  refine lv_iinc (v := (x6 + 1)) (lv' := [(6, .int (x6 + 1)), (0, .ref (a 36)), (2, .int x2), (3, .int x3), (4, .int x4), (5, .int x5), (7, .int x7), (8, .int x8), (9, .int x9)]) hx hb dX2_casesAheadOf_75 hl (k := 5) rfl (rfl) (by decide) rfl (fun ls hl => ?_)
  exact bkX2_casesAheadOf_78 (hk23) (hk33) _ _ _ _ _ _ _ _ _ hB p e s0 m below meth c A E H locs ls hP hD hS (lv_sub hl [1, 2, 3, 4, 5, 0, 6, 7, 8] rfl)
set_option maxHeartbeats 4000000 in
set_option maxRecDepth 100000 in
theorem bkX2_casesAheadOf_33 {l : Launch} {dC : Nat → ClassId} {dI : Nat → Nat → Nat} {cB cI cJ cZ cS : ClassId} {a b : Nat → Nat} {as : List Value} {r : Int32} {s' : JS} {k23 : JS → Int32 → Int32 → Int32 → Int32 → Int32 → Int32 → Int32 → Option (Int32 × JS)} {k33 : JS → Int32 → Int32 → Int32 → Int32 → Int32 → Int32 → Int32 → Int32 → Option (Int32 × JS)} (hk23 : ∀ (s : JS) (x2 : Int32) (x3 : Int32) (x4 : Int32) (x5 : Int32) (x6 : Int32) (x7 : Int32) (x8 : Int32), k23 s x2 x3 x4 x5 x6 x7 x8 = some (r, s') → BlkI l yX2_casesAheadOf wsX2_casesAheadOf ({ frames := 4, cells := 0, slots := 0, locals := 95 }) cX2_casesAheadOf 11 (some .int) (dC, dI) (tysA cB cI cJ cZ cS) as 23 (wJ cB cI cJ cZ cS a b s) [(0, .ref (a 36)), (2, .int x2), (3, .int x3), (4, .int x4), (5, .int x5), (6, .int x6), (7, .int x7), (8, .int x8)] [] (fun x u => x = r ∧ u = (wJ cB cI cJ cZ cS a b s'))) (hk33 : ∀ (s : JS) (x2 : Int32) (x3 : Int32) (x4 : Int32) (x5 : Int32) (x6 : Int32) (x7 : Int32) (x8 : Int32) (x9 : Int32), k33 s x2 x3 x4 x5 x6 x7 x8 x9 = some (r, s') → BlkI l yX2_casesAheadOf wsX2_casesAheadOf ({ frames := 4, cells := 0, slots := 0, locals := 95 }) cX2_casesAheadOf 11 (some .int) (dC, dI) (tysA cB cI cJ cZ cS) as 33 (wJ cB cI cJ cZ cS a b s) [(0, .ref (a 36)), (2, .int x2), (3, .int x3), (4, .int x4), (5, .int x5), (6, .int x6), (7, .int x7), (8, .int x8), (9, .int x9)] [] (fun x u => x = r ∧ u = (wJ cB cI cJ cZ cS a b s'))) (s : JS) (x2 : Int32) (x3 : Int32) (x4 : Int32) (x5 : Int32) (x6 : Int32) (x7 : Int32) (x8 : Int32) (x9 : Int32) (hB : kX2_casesAheadOf_33 k23 k33 s x2 x3 x4 x5 x6 x7 x8 x9 = some (r, s')) : BlkI l yX2_casesAheadOf wsX2_casesAheadOf ({ frames := 4, cells := 0, slots := 0, locals := 95 }) cX2_casesAheadOf 11 (some .int) (dC, dI) (tysA cB cI cJ cZ cS) as 33 (wJ cB cI cJ cZ cS a b s) [(0, .ref (a 36)), (2, .int x2), (3, .int x3), (4, .int x4), (5, .int x5), (6, .int x6), (7, .int x7), (8, .int x8), (9, .int x9)] [] (fun x u => x = r ∧ u = (wJ cB cI cJ cZ cS a b s')) := by
  intro p e s0 m below meth c A E H locs ls hP hD hS hl
  obtain ⟨C, hr, hlocks, hA, hK, hN⟩ := id E
  obtain ⟨hx, hb, hml, hown, hts⟩ := id C
  unfold kX2_casesAheadOf_33 at hB
  refine lv_iload hx hb dX2_casesAheadOf_33 (lv_at hl 8 rfl) ?_
  refine lv_iload hx hb dX2_casesAheadOf_35 (lv_at hl 3 rfl) ?_
  refine lv_icmp_ge (tgt := 87) hx hb dX2_casesAheadOf_37 (by decide) (fun c1 => ?_) (fun c1 => ?_)
  · have hB := if_p hB c1
    refine lv_iinc (v := (x8 + 1)) (lv' := [(8, .int (x8 + 1)), (0, .ref (a 36)), (2, .int x2), (3, .int x3), (4, .int x4), (5, .int x5), (6, .int x6), (7, .int x7), (9, .int x9)]) hx hb dX2_casesAheadOf_87 hl (k := 7) rfl (rfl) (by decide) rfl (fun ls hl => ?_)
    refine lv_goto (tgt := 23) hx hb dX2_casesAheadOf_90 (by decide) ?_
    exact hk23 _ _ _ _ _ _ _ _ hB p e s0 m below meth c A E H locs ls hP hD hS (lv_sub hl [1, 2, 3, 4, 5, 6, 7, 0] rfl)
  · have hB := if_n hB c1
    refine lv_aload_n hx hb dX2_casesAheadOf_40 rfl (lv_at hl 0 rfl) ?_
    refine q_get (v := .ref (a 38)) C inX2_casesAheadOf_X2 hK hP 42 rfl rfl 3 (by decide) rfl LX2_casesAheadOf_15 rfl dX2_casesAheadOf_41 ?_
    refine lv_iload hx hb dX2_casesAheadOf_44 (lv_at hl 7 rfl) ?_
    obtain ⟨g2, hB⟩ := guard_inv hB
    refine q_iald (x := ((s.k.f 38) (Int32.toNatClampNeg x8))) C hK hP 44 1 rfl rfl (vpb_in g2) dX2_casesAheadOf_46 rfl ?_
    refine lv_aload_n hx hb dX2_casesAheadOf_47 rfl (lv_at hl 0 rfl) ?_
    refine q_get (v := .ref (a 37)) C inX2_casesAheadOf_X2 hK hP 42 rfl rfl 2 (by decide) rfl LX2_casesAheadOf_9 rfl dX2_casesAheadOf_48 ?_
    refine lv_iload hx hb dX2_casesAheadOf_51 (lv_at hl 8 rfl) ?_
    obtain ⟨g3, hB⟩ := guard_inv hB
    refine q_iald (x := ((s.k.f 37) (Int32.toNatClampNeg x9))) C hK hP 43 1 rfl rfl (vpb_in g3) dX2_casesAheadOf_53 rfl ?_
    refine lv_imul hx hb dX2_casesAheadOf_54 ?_
    refine lv_istore (lv' := [(10, .int (((s.k.f 38) (Int32.toNatClampNeg x8)) * ((s.k.f 37) (Int32.toNatClampNeg x9)))), (0, .ref (a 36)), (2, .int x2), (3, .int x3), (4, .int x4), (5, .int x5), (6, .int x6), (7, .int x7), (8, .int x8), (9, .int x9)]) hx hb dX2_casesAheadOf_55 hl (by decide) rfl (fun ls hl => ?_)
    refine lv_iload hx hb dX2_casesAheadOf_57 (lv_at hl 0 rfl) ?_
    refine lv_iload_n hx hb dX2_casesAheadOf_59 rfl (lv_at hl 3 rfl) ?_
    refine lv_icmp_gt (tgt := 75) hx hb dX2_casesAheadOf_60 (by decide) (fun c4 => ?_) (fun c4 => ?_)
    · have hB := if_p hB c4
      exact bkX2_casesAheadOf_75 (hk23) (hk33) _ _ _ _ _ _ _ _ _ hB p e s0 m below meth c A E H locs ls hP hD hS (lv_sub hl [1, 2, 3, 4, 5, 6, 7, 8, 9] rfl)
    · have hB := if_n hB c4
      refine lv_iload hx hb dX2_casesAheadOf_63 (lv_at hl 0 rfl) ?_
      refine lv_iload_n hx hb dX2_casesAheadOf_65 rfl (lv_at hl 3 rfl) ?_
      refine lv_icmp_ne (tgt := 78) hx hb dX2_casesAheadOf_66 (by decide) (fun c5 => ?_) (fun c5 => ?_)
      · have hB := if_n hB c5
        exact bkX2_casesAheadOf_78 (hk23) (hk33) _ _ _ _ _ _ _ _ _ hB p e s0 m below meth c A E H locs ls hP hD hS (lv_sub hl [1, 2, 3, 4, 5, 6, 7, 8, 9] rfl)
      · have hB := if_p hB c5
        refine lv_iload hx hb dX2_casesAheadOf_69 (lv_at hl 7 rfl) ?_
        refine lv_iload_n hx hb dX2_casesAheadOf_71 rfl (lv_at hl 2 rfl) ?_
        refine lv_icmp_ge (tgt := 78) hx hb dX2_casesAheadOf_72 (by decide) (fun c6 => ?_) (fun c6 => ?_)
        · have hB := if_p hB c6
          exact bkX2_casesAheadOf_78 (hk23) (hk33) _ _ _ _ _ _ _ _ _ hB p e s0 m below meth c A E H locs ls hP hD hS (lv_sub hl [1, 2, 3, 4, 5, 6, 7, 8, 9] rfl)
        · have hB := if_n hB c6
          exact bkX2_casesAheadOf_75 (hk23) (hk33) _ _ _ _ _ _ _ _ _ hB p e s0 m below meth c A E H locs ls hP hD hS (lv_sub hl [1, 2, 3, 4, 5, 6, 7, 8, 9] rfl)
theorem bkX2_casesAheadOf_33L {l : Launch} {dC : Nat → ClassId} {dI : Nat → Nat → Nat} {cB cI cJ cZ cS : ClassId} {a b : Nat → Nat} {as : List Value} {r : Int32} {s' : JS} {k23 : JS → Int32 → Int32 → Int32 → Int32 → Int32 → Int32 → Int32 → Option (Int32 × JS)} (hk23 : ∀ (s : JS) (x2 : Int32) (x3 : Int32) (x4 : Int32) (x5 : Int32) (x6 : Int32) (x7 : Int32) (x8 : Int32), k23 s x2 x3 x4 x5 x6 x7 x8 = some (r, s') → BlkI l yX2_casesAheadOf wsX2_casesAheadOf ({ frames := 4, cells := 0, slots := 0, locals := 95 }) cX2_casesAheadOf 11 (some .int) (dC, dI) (tysA cB cI cJ cZ cS) as 23 (wJ cB cI cJ cZ cS a b s) [(0, .ref (a 36)), (2, .int x2), (3, .int x3), (4, .int x4), (5, .int x5), (6, .int x6), (7, .int x7), (8, .int x8)] [] (fun x u => x = r ∧ u = (wJ cB cI cJ cZ cS a b s'))) : ∀ (n : Nat) (s : JS) (x2 : Int32) (x3 : Int32) (x4 : Int32) (x5 : Int32) (x6 : Int32) (x7 : Int32) (x8 : Int32) (x9 : Int32), kX2_casesAheadOf_33L k23 n s x2 x3 x4 x5 x6 x7 x8 x9 = some (r, s') → BlkI l yX2_casesAheadOf wsX2_casesAheadOf ({ frames := 4, cells := 0, slots := 0, locals := 95 }) cX2_casesAheadOf 11 (some .int) (dC, dI) (tysA cB cI cJ cZ cS) as 33 (wJ cB cI cJ cZ cS a b s) [(0, .ref (a 36)), (2, .int x2), (3, .int x3), (4, .int x4), (5, .int x5), (6, .int x6), (7, .int x7), (8, .int x8), (9, .int x9)] [] (fun x u => x = r ∧ u = (wJ cB cI cJ cZ cS a b s')) := by
  intro n
  induction n with
  | zero => intro s x2 x3 x4 x5 x6 x7 x8 x9 hB; exact none_ne hB
  | succ n ih => intro s x2 x3 x4 x5 x6 x7 x8 x9 hB; exact bkX2_casesAheadOf_33 hk23 ih _ _ _ _ _ _ _ _ _ hB
set_option maxHeartbeats 4000000 in
set_option maxRecDepth 100000 in
theorem bkX2_casesAheadOf_23 {l : Launch} {dC : Nat → ClassId} {dI : Nat → Nat → Nat} {cB cI cJ cZ cS : ClassId} {a b : Nat → Nat} {as : List Value} {r : Int32} {s' : JS} {k23 : JS → Int32 → Int32 → Int32 → Int32 → Int32 → Int32 → Int32 → Option (Int32 × JS)} (hk23 : ∀ (s : JS) (x2 : Int32) (x3 : Int32) (x4 : Int32) (x5 : Int32) (x6 : Int32) (x7 : Int32) (x8 : Int32), k23 s x2 x3 x4 x5 x6 x7 x8 = some (r, s') → BlkI l yX2_casesAheadOf wsX2_casesAheadOf ({ frames := 4, cells := 0, slots := 0, locals := 95 }) cX2_casesAheadOf 11 (some .int) (dC, dI) (tysA cB cI cJ cZ cS) as 23 (wJ cB cI cJ cZ cS a b s) [(0, .ref (a 36)), (2, .int x2), (3, .int x3), (4, .int x4), (5, .int x5), (6, .int x6), (7, .int x7), (8, .int x8)] [] (fun x u => x = r ∧ u = (wJ cB cI cJ cZ cS a b s'))) (s : JS) (x2 : Int32) (x3 : Int32) (x4 : Int32) (x5 : Int32) (x6 : Int32) (x7 : Int32) (x8 : Int32) (hB : kX2_casesAheadOf_23 k23 s x2 x3 x4 x5 x6 x7 x8 = some (r, s')) : BlkI l yX2_casesAheadOf wsX2_casesAheadOf ({ frames := 4, cells := 0, slots := 0, locals := 95 }) cX2_casesAheadOf 11 (some .int) (dC, dI) (tysA cB cI cJ cZ cS) as 23 (wJ cB cI cJ cZ cS a b s) [(0, .ref (a 36)), (2, .int x2), (3, .int x3), (4, .int x4), (5, .int x5), (6, .int x6), (7, .int x7), (8, .int x8)] [] (fun x u => x = r ∧ u = (wJ cB cI cJ cZ cS a b s')) := by
  intro p e s0 m below meth c A E H locs ls hP hD hS hl
  obtain ⟨C, hr, hlocks, hA, hK, hN⟩ := id E
  obtain ⟨hx, hb, hml, hown, hts⟩ := id C
  unfold kX2_casesAheadOf_23 at hB
  refine lv_iload hx hb dX2_casesAheadOf_23 (lv_at hl 7 rfl) ?_
  refine lv_iload hx hb dX2_casesAheadOf_25 (lv_at hl 4 rfl) ?_
  refine lv_icmp_ge (tgt := 93) hx hb dX2_casesAheadOf_27 (by decide) (fun c1 => ?_) (fun c1 => ?_)
  · have hB := if_p hB c1
    refine lv_iload hx hb dX2_casesAheadOf_93 (lv_at hl 5 rfl) ?_
    exact q_iret C hr hlocks hK hP hD hS (Nat.le_of_ble_eq_true rfl) (Nat.le_of_ble_eq_true rfl) dX2_casesAheadOf_95 (by cases hB; exact ⟨rfl, rfl⟩)
  · have hB := if_n hB c1
    refine lv_iconst (v := 0) hx hb dX2_casesAheadOf_30 (by decide) ?_
    refine lv_istore (lv' := [(9, .int 0), (0, .ref (a 36)), (2, .int x2), (3, .int x3), (4, .int x4), (5, .int x5), (6, .int x6), (7, .int x7), (8, .int x8)]) hx hb dX2_casesAheadOf_31 hl (by decide) rfl (fun ls hl => ?_)
    exact bkX2_casesAheadOf_33L (hk23) fu _ _ _ _ _ _ _ _ _ hB p e s0 m below meth c A E H locs ls hP hD hS (lv_sub hl [1, 2, 3, 4, 5, 6, 7, 8, 0] rfl)
theorem bkX2_casesAheadOf_23L {l : Launch} {dC : Nat → ClassId} {dI : Nat → Nat → Nat} {cB cI cJ cZ cS : ClassId} {a b : Nat → Nat} {as : List Value} {r : Int32} {s' : JS} : ∀ (n : Nat) (s : JS) (x2 : Int32) (x3 : Int32) (x4 : Int32) (x5 : Int32) (x6 : Int32) (x7 : Int32) (x8 : Int32), kX2_casesAheadOf_23L n s x2 x3 x4 x5 x6 x7 x8 = some (r, s') → BlkI l yX2_casesAheadOf wsX2_casesAheadOf ({ frames := 4, cells := 0, slots := 0, locals := 95 }) cX2_casesAheadOf 11 (some .int) (dC, dI) (tysA cB cI cJ cZ cS) as 23 (wJ cB cI cJ cZ cS a b s) [(0, .ref (a 36)), (2, .int x2), (3, .int x3), (4, .int x4), (5, .int x5), (6, .int x6), (7, .int x7), (8, .int x8)] [] (fun x u => x = r ∧ u = (wJ cB cI cJ cZ cS a b s')) := by
  intro n
  induction n with
  | zero => intro s x2 x3 x4 x5 x6 x7 x8 hB; exact none_ne hB
  | succ n ih => intro s x2 x3 x4 x5 x6 x7 x8 hB; exact bkX2_casesAheadOf_23 ih _ _ _ _ _ _ _ _ hB
set_option maxHeartbeats 4000000 in
set_option maxRecDepth 100000 in
theorem bkX2_casesAheadOf {l : Launch} {dC : Nat → ClassId} {dI : Nat → Nat → Nat} {cB cI cJ cZ cS : ClassId} {a b : Nat → Nat} {as : List Value} {r : Int32} {s' : JS} (s : JS) (x2 : Int32) (x3 : Int32) (hB : kX2_casesAheadOf s x2 x3 = some (r, s')) : BlkI l yX2_casesAheadOf wsX2_casesAheadOf ({ frames := 4, cells := 0, slots := 0, locals := 95 }) cX2_casesAheadOf 11 (some .int) (dC, dI) (tysA cB cI cJ cZ cS) as 0 (wJ cB cI cJ cZ cS a b s) [(0, .ref (a 36)), (1, .ref (b 0)), (2, .int x2), (3, .int x3)] [] (fun x u => x = r ∧ u = (wJ cB cI cJ cZ cS a b s')) := by
  intro p e s0 m below meth c A E H locs ls hP hD hS hl
  obtain ⟨C, hr, hlocks, hA, hK, hN⟩ := id E
  obtain ⟨hx, hb, hml, hown, hts⟩ := id C
  unfold kX2_casesAheadOf at hB
  refine lv_aload_n hx hb dX2_casesAheadOf_0 rfl (lv_at hl 0 rfl) ?_
  refine lv_aload_n hx hb dX2_casesAheadOf_1 rfl (lv_at hl 1 rfl) ?_
  obtain ⟨q_, s1, hc, hB⟩ := bindI_inv hB
  refine q_goiF (va_runV (As := [.ref (b 0)]) (rest := []) C (ckX2_fillNear hc _) (cwV 1 hts gX2_casesAheadOf_X2_fillNear rfl rfl rfl (by decide +kernel) ⟨Nat.le_of_ble_eq_true rfl, Nat.le_of_ble_eq_true rfl⟩) (q_preV hK hP (ci := 2) (q0 := 42) rfl rfl rfl (q_preF hN hK hP hD)) rfl rfl hl.1 rfl (lv_room (Nat.le_of_ble_eq_true rfl)) dX2_casesAheadOf_2 ⟨Nat.le_of_ble_eq_true rfl, Nat.le_of_ble_eq_true rfl⟩) hD hS hA (fun r2 w1 H locs hw hP hD hS => ?_)
  obtain ⟨hq_, hw⟩ := hw; subst hw; subst hq_
  refine lv_istore (lv' := [(4, .int r2), (0, .ref (a 36)), (1, .ref (b 0)), (2, .int x2), (3, .int x3)]) hx hb dX2_casesAheadOf_5 hl (by decide) rfl (fun ls hl => ?_)
  refine lv_aload_n hx hb dX2_casesAheadOf_7 rfl (lv_at hl 1 rfl) ?_
  refine lv_aload_n hx hb dX2_casesAheadOf_8 rfl (lv_at hl 2 rfl) ?_
  obtain ⟨q_, s3, hc, hB⟩ := bindI_inv hB
  refine q_goiF (va_runV (As := [.ref (b 0)]) (rest := []) C (ckX2_fillFar hc _) (cwV 1 hts gX2_casesAheadOf_X2_fillFar rfl rfl rfl (by decide +kernel) ⟨Nat.le_of_ble_eq_true rfl, Nat.le_of_ble_eq_true rfl⟩) (q_preV hK hP (ci := 2) (q0 := 42) rfl rfl rfl (q_preF hN hK hP hD)) rfl rfl hl.1 rfl (lv_room (Nat.le_of_ble_eq_true rfl)) dX2_casesAheadOf_9 ⟨Nat.le_of_ble_eq_true rfl, Nat.le_of_ble_eq_true rfl⟩) hD hS hA (fun r4 w1 H locs hw hP hD hS => ?_)
  obtain ⟨hq_, hw⟩ := hw; subst hw; subst hq_
  refine lv_istore (lv' := [(5, .int r4), (4, .int r2), (0, .ref (a 36)), (1, .ref (b 0)), (2, .int x2), (3, .int x3)]) hx hb dX2_casesAheadOf_12 hl (by decide) rfl (fun ls hl => ?_)
  refine lv_iconst (v := 0) hx hb dX2_casesAheadOf_14 (by decide) ?_
  refine lv_istore (lv' := [(6, .int 0), (5, .int r4), (4, .int r2), (0, .ref (a 36)), (1, .ref (b 0)), (2, .int x2), (3, .int x3)]) hx hb dX2_casesAheadOf_15 hl (by decide) rfl (fun ls hl => ?_)
  refine lv_iconst (v := 0) hx hb dX2_casesAheadOf_17 (by decide) ?_
  refine lv_istore (lv' := [(7, .int 0), (6, .int 0), (5, .int r4), (4, .int r2), (0, .ref (a 36)), (1, .ref (b 0)), (2, .int x2), (3, .int x3)]) hx hb dX2_casesAheadOf_18 hl (by decide) rfl (fun ls hl => ?_)
  refine lv_iconst (v := 0) hx hb dX2_casesAheadOf_20 (by decide) ?_
  refine lv_istore (lv' := [(8, .int 0), (7, .int 0), (6, .int 0), (5, .int r4), (4, .int r2), (0, .ref (a 36)), (1, .ref (b 0)), (2, .int x2), (3, .int x3)]) hx hb dX2_casesAheadOf_21 hl (by decide) rfl (fun ls hl => ?_)
  exact bkX2_casesAheadOf_23L fu _ _ _ _ _ _ _ _ hB p e s0 m below meth c A E H locs ls hP hD hS (lv_sub hl [5, 7, 8, 4, 3, 2, 1, 0] rfl)
theorem ckX2_casesAheadOf {l : Launch} {dC : Nat → ClassId} {dI : Nat → Nat → Nat} {cB cI cJ cZ cS : ClassId} {a b : Nat → Nat} {r : Int32} {s' : JS} {s : JS} {x2 : Int32} {x3 : Int32} (hB : kX2_casesAheadOf s x2 x3 = some (r, s')) : CI l yX2_casesAheadOf wsX2_casesAheadOf ({ frames := 4, cells := 0, slots := 0, locals := 95 }) (dC, dI) (tysA cB cI cJ cZ cS) (wJ cB cI cJ cZ cS a b s) [.ref (a 36), .ref (b 0), .int x2, .int x3] (fun x u => x = r ∧ u = (wJ cB cI cJ cZ cS a b s')) :=
  CI_of (cc := cX2_casesAheadOf) (maxL := 11) (ret := (some .int)) (by decide) rfl (Nat.le_of_ble_eq_true rfl) (bkX2_casesAheadOf _ _ _ hB)
theorem LX2_caseAtRank_15 : Cond.fieldLink RX2 15 "GuessFerry$Outlook" "far" "[I" ∈ wsX2_caseAtRank := by decide +kernel
theorem LX2_caseAtRank_18 : Cond.fieldLink RX2 18 "GuessFerry$Outlook" "topGuesses" "[I" ∈ wsX2_caseAtRank := by decide +kernel
theorem LX2_caseAtRank_21 : Cond.fieldLink RX2 21 "GuessFerry$Outlook" "topOdds" "[I" ∈ wsX2_caseAtRank := by decide +kernel
theorem LX2_caseAtRank_9 : Cond.fieldLink RX2 9 "GuessFerry$Outlook" "near" "[I" ∈ wsX2_caseAtRank := by decide +kernel
theorem inX2_caseAtRank_X2 : ∀ w ∈ u_ws RX2 TX2 6, w ∈ wsX2_caseAtRank := by decide +kernel
set_option maxHeartbeats 4000000 in
set_option maxRecDepth 100000 in
theorem bkX2_caseAtRank_88 {l : Launch} {dC : Nat → ClassId} {dI : Nat → Nat → Nat} {cB cI cJ cZ cS : ClassId} {a b : Nat → Nat} {as : List Value} {r : Int32} {s' : JS} {k35 : JS → Int32 → Int32 → Int32 → Int32 → Int32 → Option (Int32 × JS)} {k45 : JS → Int32 → Int32 → Int32 → Int32 → Int32 → Int32 → Option (Int32 × JS)} (hk35 : ∀ (s : JS) (x2 : Int32) (x3 : Int32) (x4 : Int32) (x5 : Int32) (x6 : Int32), k35 s x2 x3 x4 x5 x6 = some (r, s') → BlkI l yX2_caseAtRank wsX2_caseAtRank ({ frames := 4, cells := 0, slots := 0, locals := 95 }) cX2_caseAtRank 9 (some .int) (dC, dI) (tysA cB cI cJ cZ cS) as 35 (wJ cB cI cJ cZ cS a b s) [(0, .ref (a 36)), (2, .int x2), (3, .int x3), (4, .int x4), (5, .int x5), (6, .int x6)] [] (fun x u => x = r ∧ u = (wJ cB cI cJ cZ cS a b s'))) (hk45 : ∀ (s : JS) (x2 : Int32) (x3 : Int32) (x4 : Int32) (x5 : Int32) (x6 : Int32) (x7 : Int32), k45 s x2 x3 x4 x5 x6 x7 = some (r, s') → BlkI l yX2_caseAtRank wsX2_caseAtRank ({ frames := 4, cells := 0, slots := 0, locals := 95 }) cX2_caseAtRank 9 (some .int) (dC, dI) (tysA cB cI cJ cZ cS) as 45 (wJ cB cI cJ cZ cS a b s) [(0, .ref (a 36)), (2, .int x2), (3, .int x3), (4, .int x4), (5, .int x5), (6, .int x6), (7, .int x7)] [] (fun x u => x = r ∧ u = (wJ cB cI cJ cZ cS a b s'))) (s : JS) (x2 : Int32) (x3 : Int32) (x4 : Int32) (x5 : Int32) (x6 : Int32) (x7 : Int32) (hB : kX2_caseAtRank_88 k35 k45 s x2 x3 x4 x5 x6 x7 = some (r, s')) : BlkI l yX2_caseAtRank wsX2_caseAtRank ({ frames := 4, cells := 0, slots := 0, locals := 95 }) cX2_caseAtRank 9 (some .int) (dC, dI) (tysA cB cI cJ cZ cS) as 88 (wJ cB cI cJ cZ cS a b s) [(0, .ref (a 36)), (2, .int x2), (3, .int x3), (4, .int x4), (5, .int x5), (6, .int x6), (7, .int x7)] [] (fun x u => x = r ∧ u = (wJ cB cI cJ cZ cS a b s')) := by
  intro p e s0 m below meth c A E H locs ls hP hD hS hl
  obtain ⟨C, hr, hlocks, hA, hK, hN⟩ := id E
  obtain ⟨hx, hb, hml, hown, hts⟩ := id C
  unfold kX2_caseAtRank_88 at hB
  refine lv_iinc (v := (x5 + 1)) (lv' := [(5, .int (x5 + 1)), (0, .ref (a 36)), (2, .int x2), (3, .int x3), (4, .int x4), (6, .int x6), (7, .int x7)]) hx hb dX2_caseAtRank_88 hl (k := 4) rfl (rfl) (by decide) rfl (fun ls hl => ?_)
  refine lv_iinc (v := (x7 + 1)) (lv' := [(7, .int (x7 + 1)), (5, .int (x5 + 1)), (0, .ref (a 36)), (2, .int x2), (3, .int x3), (4, .int x4), (6, .int x6)]) hx hb dX2_caseAtRank_91 hl (k := 6) rfl (rfl) (by decide) rfl (fun ls hl => ?_)
  refine lv_goto (tgt := 45) hx hb dX2_caseAtRank_94 (by decide) ?_
  exact hk45 _ _ _ _ _ _ _ hB p e s0 m below meth c A E H locs ls hP hD hS (lv_sub hl [2, 3, 4, 5, 1, 6, 0] rfl)
set_option maxHeartbeats 4000000 in
set_option maxRecDepth 100000 in
theorem bkX2_caseAtRank_45 {l : Launch} {dC : Nat → ClassId} {dI : Nat → Nat → Nat} {cB cI cJ cZ cS : ClassId} {a b : Nat → Nat} {as : List Value} {r : Int32} {s' : JS} {k35 : JS → Int32 → Int32 → Int32 → Int32 → Int32 → Option (Int32 × JS)} {k45 : JS → Int32 → Int32 → Int32 → Int32 → Int32 → Int32 → Option (Int32 × JS)} (hk35 : ∀ (s : JS) (x2 : Int32) (x3 : Int32) (x4 : Int32) (x5 : Int32) (x6 : Int32), k35 s x2 x3 x4 x5 x6 = some (r, s') → BlkI l yX2_caseAtRank wsX2_caseAtRank ({ frames := 4, cells := 0, slots := 0, locals := 95 }) cX2_caseAtRank 9 (some .int) (dC, dI) (tysA cB cI cJ cZ cS) as 35 (wJ cB cI cJ cZ cS a b s) [(0, .ref (a 36)), (2, .int x2), (3, .int x3), (4, .int x4), (5, .int x5), (6, .int x6)] [] (fun x u => x = r ∧ u = (wJ cB cI cJ cZ cS a b s'))) (hk45 : ∀ (s : JS) (x2 : Int32) (x3 : Int32) (x4 : Int32) (x5 : Int32) (x6 : Int32) (x7 : Int32), k45 s x2 x3 x4 x5 x6 x7 = some (r, s') → BlkI l yX2_caseAtRank wsX2_caseAtRank ({ frames := 4, cells := 0, slots := 0, locals := 95 }) cX2_caseAtRank 9 (some .int) (dC, dI) (tysA cB cI cJ cZ cS) as 45 (wJ cB cI cJ cZ cS a b s) [(0, .ref (a 36)), (2, .int x2), (3, .int x3), (4, .int x4), (5, .int x5), (6, .int x6), (7, .int x7)] [] (fun x u => x = r ∧ u = (wJ cB cI cJ cZ cS a b s'))) (s : JS) (x2 : Int32) (x3 : Int32) (x4 : Int32) (x5 : Int32) (x6 : Int32) (x7 : Int32) (hB : kX2_caseAtRank_45 k35 k45 s x2 x3 x4 x5 x6 x7 = some (r, s')) : BlkI l yX2_caseAtRank wsX2_caseAtRank ({ frames := 4, cells := 0, slots := 0, locals := 95 }) cX2_caseAtRank 9 (some .int) (dC, dI) (tysA cB cI cJ cZ cS) as 45 (wJ cB cI cJ cZ cS a b s) [(0, .ref (a 36)), (2, .int x2), (3, .int x3), (4, .int x4), (5, .int x5), (6, .int x6), (7, .int x7)] [] (fun x u => x = r ∧ u = (wJ cB cI cJ cZ cS a b s')) := by
  intro p e s0 m below meth c A E H locs ls hP hD hS hl
  obtain ⟨C, hr, hlocks, hA, hK, hN⟩ := id E
  obtain ⟨hx, hb, hml, hown, hts⟩ := id C
  unfold kX2_caseAtRank_45 at hB
  refine lv_iload hx hb dX2_caseAtRank_45 (lv_at hl 6 rfl) ?_
  refine lv_iload_n hx hb dX2_caseAtRank_47 rfl (lv_at hl 2 rfl) ?_
  refine lv_icmp_ge (tgt := 97) hx hb dX2_caseAtRank_48 (by decide) (fun c1 => ?_) (fun c1 => ?_)
  · have hB := if_p hB c1
    refine lv_iinc (v := (x6 + 1)) (lv' := [(6, .int (x6 + 1)), (0, .ref (a 36)), (2, .int x2), (3, .int x3), (4, .int x4), (5, .int x5), (7, .int x7)]) hx hb dX2_caseAtRank_97 hl (k := 5) rfl (rfl) (by decide) rfl (fun ls hl => ?_)
    refine lv_goto (tgt := 35) hx hb dX2_caseAtRank_100 (by decide) ?_
    exact hk35 _ _ _ _ _ _ hB p e s0 m below meth c A E H locs ls hP hD hS (lv_sub hl [1, 2, 3, 4, 5, 0] rfl)
  · have hB := if_n hB c1
    refine lv_aload_n hx hb dX2_caseAtRank_51 rfl (lv_at hl 0 rfl) ?_
    refine q_get (v := .ref (a 38)) C inX2_caseAtRank_X2 hK hP 42 rfl rfl 3 (by decide) rfl LX2_caseAtRank_15 rfl dX2_caseAtRank_52 ?_
    refine lv_iload hx hb dX2_caseAtRank_55 (lv_at hl 5 rfl) ?_
    obtain ⟨g2, hB⟩ := guard_inv hB
    refine q_iald (x := ((s.k.f 38) (Int32.toNatClampNeg x6))) C hK hP 44 1 rfl rfl (vpb_in g2) dX2_caseAtRank_57 rfl ?_
    refine lv_aload_n hx hb dX2_caseAtRank_58 rfl (lv_at hl 0 rfl) ?_
    refine q_get (v := .ref (a 37)) C inX2_caseAtRank_X2 hK hP 42 rfl rfl 2 (by decide) rfl LX2_caseAtRank_9 rfl dX2_caseAtRank_59 ?_
    refine lv_iload hx hb dX2_caseAtRank_62 (lv_at hl 6 rfl) ?_
    obtain ⟨g3, hB⟩ := guard_inv hB
    refine q_iald (x := ((s.k.f 37) (Int32.toNatClampNeg x7))) C hK hP 43 1 rfl rfl (vpb_in g3) dX2_caseAtRank_64 rfl ?_
    refine lv_imul hx hb dX2_caseAtRank_65 ?_
    refine lv_istore (lv' := [(8, .int (((s.k.f 38) (Int32.toNatClampNeg x6)) * ((s.k.f 37) (Int32.toNatClampNeg x7)))), (0, .ref (a 36)), (2, .int x2), (3, .int x3), (4, .int x4), (5, .int x5), (6, .int x6), (7, .int x7)]) hx hb dX2_caseAtRank_66 hl (by decide) rfl (fun ls hl => ?_)
    refine lv_iload hx hb dX2_caseAtRank_68 (lv_at hl 0 rfl) ?_
    refine lv_aload_n hx hb dX2_caseAtRank_70 rfl (lv_at hl 1 rfl) ?_
    refine q_get (v := .ref (a 40)) C inX2_caseAtRank_X2 hK hP 42 rfl rfl 5 (by decide) rfl LX2_caseAtRank_21 rfl dX2_caseAtRank_71 ?_
    refine lv_iload_n hx hb dX2_caseAtRank_74 rfl (lv_at hl 2 rfl) ?_
    obtain ⟨g4, hB⟩ := guard_inv hB
    refine q_iald (x := ((s.k.f 40) (Int32.toNatClampNeg x2))) C hK hP 46 1 rfl rfl (vpb_in g4) dX2_caseAtRank_75 rfl ?_
    refine lv_icmp_le (tgt := 88) hx hb dX2_caseAtRank_76 (by decide) (fun c5 => ?_) (fun c5 => ?_)
    · have hB := if_p hB c5
      exact bkX2_caseAtRank_88 (hk35) (hk45) _ _ _ _ _ _ _ hB p e s0 m below meth c A E H locs ls hP hD hS (lv_sub hl [1, 2, 3, 4, 5, 6, 7] rfl)
    · have hB := if_n hB c5
      refine lv_aload_n hx hb dX2_caseAtRank_79 rfl (lv_at hl 1 rfl) ?_
      refine lv_iload hx hb dX2_caseAtRank_80 (lv_at hl 5 rfl) ?_
      refine lv_iload hx hb dX2_caseAtRank_82 (lv_at hl 0 rfl) ?_
      refine lv_iload_n hx hb dX2_caseAtRank_84 rfl (lv_at hl 2 rfl) ?_
      obtain ⟨s6, hc, hB⟩ := bindP_inv hB
      refine q_gov (wr := ((wD cI b s.d))) (va_runV (As := [.int x5, .int (((s.k.f 38) (Int32.toNatClampNeg x6)) * ((s.k.f 37) (Int32.toNatClampNeg x7))), .int x2]) (rest := []) C (ckX2_putOnTop hc _) (cwV 3 hts gX2_caseAtRank_X2_putOnTop rfl rfl rfl (by decide +kernel) ⟨Nat.le_of_ble_eq_true rfl, Nat.le_of_ble_eq_true rfl⟩) (q_preV hK hP (ci := 2) (q0 := 42) rfl rfl rfl (q_pre hN hK hP hD [6, 7, 8, 9, 10, 11, 12, 13, 14, 15, 16, 17, 18, 19, 20, 21, 22, 23, 24, 25, 26, 27, 28, 29, 30, 31, 32, 33, 34, 35, 36, 37, 38, 39, 40, 41, 42, 43, 44, 45, 46, 47, 48, 49, 50, 51, 52] rfl (by decide))) rfl rfl hl.1 rfl (lv_room (Nat.le_of_ble_eq_true rfl)) dX2_caseAtRank_85 ⟨Nat.le_of_ble_eq_true rfl, Nat.le_of_ble_eq_true rfl⟩) hP hD hS hA [6, 7, 8, 9, 10, 11, 12, 13, 14, 15, 16, 17, 18, 19, 20, 21, 22, 23, 24, 25, 26, 27, 28, 29, 30, 31, 32, 33, 34, 35, 36, 37, 38, 39, 40, 41, 42, 43, 44, 45, 46, 47, 48, 49, 50, 51, 52] [0, 1, 2, 3, 4, 5] rfl rfl (by decide) (by decide) (fun w1 H locs hw hP hD hS => ?_)
      subst hw
      obtain ⟨s7, hs8, hB⟩ := letS_inv hB
      have hP : va_P (dC, dI) vwCl (wJ cB cI cJ cZ cS a b s7) H := by subst hs8; exact hP
      have hD : va_D A (wJ cB cI cJ cZ cS a b s7) := by subst hs8; exact hD
      exact bkX2_caseAtRank_88 (hk35) (hk45) _ _ _ _ _ _ _ hB p e s0 m below meth c A E H locs ls hP hD hS (lv_sub hl [1, 2, 3, 4, 5, 6, 7] rfl)
theorem bkX2_caseAtRank_45L {l : Launch} {dC : Nat → ClassId} {dI : Nat → Nat → Nat} {cB cI cJ cZ cS : ClassId} {a b : Nat → Nat} {as : List Value} {r : Int32} {s' : JS} {k35 : JS → Int32 → Int32 → Int32 → Int32 → Int32 → Option (Int32 × JS)} (hk35 : ∀ (s : JS) (x2 : Int32) (x3 : Int32) (x4 : Int32) (x5 : Int32) (x6 : Int32), k35 s x2 x3 x4 x5 x6 = some (r, s') → BlkI l yX2_caseAtRank wsX2_caseAtRank ({ frames := 4, cells := 0, slots := 0, locals := 95 }) cX2_caseAtRank 9 (some .int) (dC, dI) (tysA cB cI cJ cZ cS) as 35 (wJ cB cI cJ cZ cS a b s) [(0, .ref (a 36)), (2, .int x2), (3, .int x3), (4, .int x4), (5, .int x5), (6, .int x6)] [] (fun x u => x = r ∧ u = (wJ cB cI cJ cZ cS a b s'))) : ∀ (n : Nat) (s : JS) (x2 : Int32) (x3 : Int32) (x4 : Int32) (x5 : Int32) (x6 : Int32) (x7 : Int32), kX2_caseAtRank_45L k35 n s x2 x3 x4 x5 x6 x7 = some (r, s') → BlkI l yX2_caseAtRank wsX2_caseAtRank ({ frames := 4, cells := 0, slots := 0, locals := 95 }) cX2_caseAtRank 9 (some .int) (dC, dI) (tysA cB cI cJ cZ cS) as 45 (wJ cB cI cJ cZ cS a b s) [(0, .ref (a 36)), (2, .int x2), (3, .int x3), (4, .int x4), (5, .int x5), (6, .int x6), (7, .int x7)] [] (fun x u => x = r ∧ u = (wJ cB cI cJ cZ cS a b s')) := by
  intro n
  induction n with
  | zero => intro s x2 x3 x4 x5 x6 x7 hB; exact none_ne hB
  | succ n ih => intro s x2 x3 x4 x5 x6 x7 hB; exact bkX2_caseAtRank_45 hk35 ih _ _ _ _ _ _ _ hB
set_option maxHeartbeats 4000000 in
set_option maxRecDepth 100000 in
theorem bkX2_caseAtRank_35 {l : Launch} {dC : Nat → ClassId} {dI : Nat → Nat → Nat} {cB cI cJ cZ cS : ClassId} {a b : Nat → Nat} {as : List Value} {r : Int32} {s' : JS} {k35 : JS → Int32 → Int32 → Int32 → Int32 → Int32 → Option (Int32 × JS)} (hk35 : ∀ (s : JS) (x2 : Int32) (x3 : Int32) (x4 : Int32) (x5 : Int32) (x6 : Int32), k35 s x2 x3 x4 x5 x6 = some (r, s') → BlkI l yX2_caseAtRank wsX2_caseAtRank ({ frames := 4, cells := 0, slots := 0, locals := 95 }) cX2_caseAtRank 9 (some .int) (dC, dI) (tysA cB cI cJ cZ cS) as 35 (wJ cB cI cJ cZ cS a b s) [(0, .ref (a 36)), (2, .int x2), (3, .int x3), (4, .int x4), (5, .int x5), (6, .int x6)] [] (fun x u => x = r ∧ u = (wJ cB cI cJ cZ cS a b s'))) (s : JS) (x2 : Int32) (x3 : Int32) (x4 : Int32) (x5 : Int32) (x6 : Int32) (hB : kX2_caseAtRank_35 k35 s x2 x3 x4 x5 x6 = some (r, s')) : BlkI l yX2_caseAtRank wsX2_caseAtRank ({ frames := 4, cells := 0, slots := 0, locals := 95 }) cX2_caseAtRank 9 (some .int) (dC, dI) (tysA cB cI cJ cZ cS) as 35 (wJ cB cI cJ cZ cS a b s) [(0, .ref (a 36)), (2, .int x2), (3, .int x3), (4, .int x4), (5, .int x5), (6, .int x6)] [] (fun x u => x = r ∧ u = (wJ cB cI cJ cZ cS a b s')) := by
  intro p e s0 m below meth c A E H locs ls hP hD hS hl
  obtain ⟨C, hr, hlocks, hA, hK, hN⟩ := id E
  obtain ⟨hx, hb, hml, hown, hts⟩ := id C
  unfold kX2_caseAtRank_35 at hB
  refine lv_iload hx hb dX2_caseAtRank_35 (lv_at hl 5 rfl) ?_
  refine lv_iload hx hb dX2_caseAtRank_37 (lv_at hl 3 rfl) ?_
  refine lv_icmp_ge (tgt := 103) hx hb dX2_caseAtRank_39 (by decide) (fun c1 => ?_) (fun c1 => ?_)
  · have hB := if_p hB c1
    refine lv_aload_n hx hb dX2_caseAtRank_103 rfl (lv_at hl 0 rfl) ?_
    refine q_get (v := .ref (a 39)) C inX2_caseAtRank_X2 hK hP 42 rfl rfl 4 (by decide) rfl LX2_caseAtRank_18 rfl dX2_caseAtRank_104 ?_
    refine lv_iload_n hx hb dX2_caseAtRank_107 rfl (lv_at hl 1 rfl) ?_
    obtain ⟨g2, hB⟩ := guard_inv hB
    refine q_iald (x := ((s.k.f 39) (Int32.toNatClampNeg x2))) C hK hP 45 1 rfl rfl (vpb_in g2) dX2_caseAtRank_108 rfl ?_
    exact q_iret C hr hlocks hK hP hD hS (Nat.le_of_ble_eq_true rfl) (Nat.le_of_ble_eq_true rfl) dX2_caseAtRank_109 (by cases hB; exact ⟨rfl, rfl⟩)
  · have hB := if_n hB c1
    refine lv_iconst (v := 0) hx hb dX2_caseAtRank_42 (by decide) ?_
    refine lv_istore (lv' := [(7, .int 0), (0, .ref (a 36)), (2, .int x2), (3, .int x3), (4, .int x4), (5, .int x5), (6, .int x6)]) hx hb dX2_caseAtRank_43 hl (by decide) rfl (fun ls hl => ?_)
    exact bkX2_caseAtRank_45L (hk35) fu _ _ _ _ _ _ _ hB p e s0 m below meth c A E H locs ls hP hD hS (lv_sub hl [1, 2, 3, 4, 5, 6, 0] rfl)
theorem bkX2_caseAtRank_35L {l : Launch} {dC : Nat → ClassId} {dI : Nat → Nat → Nat} {cB cI cJ cZ cS : ClassId} {a b : Nat → Nat} {as : List Value} {r : Int32} {s' : JS} : ∀ (n : Nat) (s : JS) (x2 : Int32) (x3 : Int32) (x4 : Int32) (x5 : Int32) (x6 : Int32), kX2_caseAtRank_35L n s x2 x3 x4 x5 x6 = some (r, s') → BlkI l yX2_caseAtRank wsX2_caseAtRank ({ frames := 4, cells := 0, slots := 0, locals := 95 }) cX2_caseAtRank 9 (some .int) (dC, dI) (tysA cB cI cJ cZ cS) as 35 (wJ cB cI cJ cZ cS a b s) [(0, .ref (a 36)), (2, .int x2), (3, .int x3), (4, .int x4), (5, .int x5), (6, .int x6)] [] (fun x u => x = r ∧ u = (wJ cB cI cJ cZ cS a b s')) := by
  intro n
  induction n with
  | zero => intro s x2 x3 x4 x5 x6 hB; exact none_ne hB
  | succ n ih => intro s x2 x3 x4 x5 x6 hB; exact bkX2_caseAtRank_35 ih _ _ _ _ _ _ hB
set_option maxHeartbeats 4000000 in
set_option maxRecDepth 100000 in
theorem bkX2_caseAtRank {l : Launch} {dC : Nat → ClassId} {dI : Nat → Nat → Nat} {cB cI cJ cZ cS : ClassId} {a b : Nat → Nat} {as : List Value} {r : Int32} {s' : JS} (s : JS) (x2 : Int32) (hB : kX2_caseAtRank s x2 = some (r, s')) : BlkI l yX2_caseAtRank wsX2_caseAtRank ({ frames := 4, cells := 0, slots := 0, locals := 95 }) cX2_caseAtRank 9 (some .int) (dC, dI) (tysA cB cI cJ cZ cS) as 0 (wJ cB cI cJ cZ cS a b s) [(0, .ref (a 36)), (1, .ref (b 0)), (2, .int x2)] [] (fun x u => x = r ∧ u = (wJ cB cI cJ cZ cS a b s')) := by
  intro p e s0 m below meth c A E H locs ls hP hD hS hl
  obtain ⟨C, hr, hlocks, hA, hK, hN⟩ := id E
  obtain ⟨hx, hb, hml, hown, hts⟩ := id C
  unfold kX2_caseAtRank at hB
  refine lv_aload_n hx hb dX2_caseAtRank_0 rfl (lv_at hl 0 rfl) ?_
  refine lv_aload_n hx hb dX2_caseAtRank_1 rfl (lv_at hl 1 rfl) ?_
  obtain ⟨q_, s1, hc, hB⟩ := bindI_inv hB
  refine q_goiF (va_runV (As := [.ref (b 0)]) (rest := []) C (ckX2_fillNear hc _) (cwV 1 hts gX2_caseAtRank_X2_fillNear rfl rfl rfl (by decide +kernel) ⟨Nat.le_of_ble_eq_true rfl, Nat.le_of_ble_eq_true rfl⟩) (q_preV hK hP (ci := 2) (q0 := 42) rfl rfl rfl (q_preF hN hK hP hD)) rfl rfl hl.1 rfl (lv_room (Nat.le_of_ble_eq_true rfl)) dX2_caseAtRank_2 ⟨Nat.le_of_ble_eq_true rfl, Nat.le_of_ble_eq_true rfl⟩) hD hS hA (fun r2 w1 H locs hw hP hD hS => ?_)
  obtain ⟨hq_, hw⟩ := hw; subst hw; subst hq_
  refine lv_istore_n (lv' := [(3, .int r2), (0, .ref (a 36)), (1, .ref (b 0)), (2, .int x2)]) hx hb dX2_caseAtRank_5 rfl hl (by decide) rfl (fun ls hl => ?_)
  refine lv_aload_n hx hb dX2_caseAtRank_6 rfl (lv_at hl 1 rfl) ?_
  refine lv_aload_n hx hb dX2_caseAtRank_7 rfl (lv_at hl 2 rfl) ?_
  obtain ⟨q_, s3, hc, hB⟩ := bindI_inv hB
  refine q_goiF (va_runV (As := [.ref (b 0)]) (rest := []) C (ckX2_fillFar hc _) (cwV 1 hts gX2_caseAtRank_X2_fillFar rfl rfl rfl (by decide +kernel) ⟨Nat.le_of_ble_eq_true rfl, Nat.le_of_ble_eq_true rfl⟩) (q_preV hK hP (ci := 2) (q0 := 42) rfl rfl rfl (q_preF hN hK hP hD)) rfl rfl hl.1 rfl (lv_room (Nat.le_of_ble_eq_true rfl)) dX2_caseAtRank_8 ⟨Nat.le_of_ble_eq_true rfl, Nat.le_of_ble_eq_true rfl⟩) hD hS hA (fun r4 w1 H locs hw hP hD hS => ?_)
  obtain ⟨hq_, hw⟩ := hw; subst hw; subst hq_
  refine lv_istore (lv' := [(4, .int r4), (3, .int r2), (0, .ref (a 36)), (1, .ref (b 0)), (2, .int x2)]) hx hb dX2_caseAtRank_11 hl (by decide) rfl (fun ls hl => ?_)
  refine lv_aload_n hx hb dX2_caseAtRank_13 rfl (lv_at hl 2 rfl) ?_
  refine q_get (v := .ref (a 40)) C inX2_caseAtRank_X2 hK hP 42 rfl rfl 5 (by decide) rfl LX2_caseAtRank_21 rfl dX2_caseAtRank_14 ?_
  refine lv_iconst (v := 0) hx hb dX2_caseAtRank_17 (by decide) ?_
  obtain ⟨s5, hc, hB⟩ := bindP_inv hB
  refine q_gov (wr := (((wJ cB cI cJ cZ cS a b s3)).eraseIdx 46)) (va_runS (As := [.ref (a 40), .int 0]) (rest := []) C (ckJ7_fill_53178_20 hc _) (va_cwS 2 hts gX2_caseAtRank_J7_fill_53178 rfl rfl rfl (by decide +kernel) ⟨Nat.le_of_ble_eq_true rfl, Nat.le_of_ble_eq_true rfl⟩) (q_pre hN hK hP hD [46] rfl (by decide)) rfl rfl hl.1 rfl (lv_room (Nat.le_of_ble_eq_true rfl)) dX2_caseAtRank_18 ⟨Nat.le_of_ble_eq_true rfl, Nat.le_of_ble_eq_true rfl⟩) hP hD hS hA [46] [0, 1, 2, 3, 4, 5, 6, 7, 8, 9, 10, 11, 12, 13, 14, 15, 16, 17, 18, 19, 20, 21, 22, 23, 24, 25, 26, 27, 28, 29, 30, 31, 32, 33, 34, 35, 36, 37, 38, 39, 40, 41, 42, 43, 44, 45, 47, 48, 49, 50, 51, 52] rfl rfl (by decide) (by decide) (fun w1 H locs hw hP hD hS => ?_)
  subst hw
  obtain ⟨s6, hs7, hB⟩ := letS_inv hB
  have hP : va_P (dC, dI) vwCl (wJ cB cI cJ cZ cS a b s6) H := by subst hs7; exact hP.sub [0, 1, 2, 3, 4, 5, 6, 7, 8, 9, 10, 11, 12, 13, 14, 15, 16, 17, 18, 19, 20, 21, 22, 23, 24, 25, 26, 27, 28, 29, 30, 31, 32, 33, 34, 35, 36, 37, 38, 39, 40, 41, 42, 43, 44, 45, 52, 46, 47, 48, 49, 50, 51] rfl
  have hD : va_D A (wJ cB cI cJ cZ cS a b s6) := by subst hs7; exact hD.sub [0, 1, 2, 3, 4, 5, 6, 7, 8, 9, 10, 11, 12, 13, 14, 15, 16, 17, 18, 19, 20, 21, 22, 23, 24, 25, 26, 27, 28, 29, 30, 31, 32, 33, 34, 35, 36, 37, 38, 39, 40, 41, 42, 43, 44, 45, 52, 46, 47, 48, 49, 50, 51] (by decide) rfl
  refine lv_aload_n hx hb dX2_caseAtRank_21 rfl (lv_at hl 2 rfl) ?_
  refine q_get (v := .ref (a 39)) C inX2_caseAtRank_X2 hK hP 42 rfl rfl 4 (by decide) rfl LX2_caseAtRank_18 rfl dX2_caseAtRank_22 ?_
  refine lv_iconst (v := (-1)) hx hb dX2_caseAtRank_25 (by decide) ?_
  obtain ⟨s8, hc, hB⟩ := bindP_inv hB
  refine q_gov (wr := (((wJ cB cI cJ cZ cS a b s6)).eraseIdx 45)) (va_runS (As := [.ref (a 39), .int (-1)]) (rest := []) C (ckJ7_fill_53178_20 hc _) (va_cwS 2 hts gX2_caseAtRank_J7_fill_53178 rfl rfl rfl (by decide +kernel) ⟨Nat.le_of_ble_eq_true rfl, Nat.le_of_ble_eq_true rfl⟩) (q_pre hN hK hP hD [45] rfl (by decide)) rfl rfl hl.1 rfl (lv_room (Nat.le_of_ble_eq_true rfl)) dX2_caseAtRank_26 ⟨Nat.le_of_ble_eq_true rfl, Nat.le_of_ble_eq_true rfl⟩) hP hD hS hA [45] [0, 1, 2, 3, 4, 5, 6, 7, 8, 9, 10, 11, 12, 13, 14, 15, 16, 17, 18, 19, 20, 21, 22, 23, 24, 25, 26, 27, 28, 29, 30, 31, 32, 33, 34, 35, 36, 37, 38, 39, 40, 41, 42, 43, 44, 46, 47, 48, 49, 50, 51, 52] rfl rfl (by decide) (by decide) (fun w1 H locs hw hP hD hS => ?_)
  subst hw
  obtain ⟨s9, hs10, hB⟩ := letS_inv hB
  have hP : va_P (dC, dI) vwCl (wJ cB cI cJ cZ cS a b s9) H := by subst hs10; exact hP.sub [0, 1, 2, 3, 4, 5, 6, 7, 8, 9, 10, 11, 12, 13, 14, 15, 16, 17, 18, 19, 20, 21, 22, 23, 24, 25, 26, 27, 28, 29, 30, 31, 32, 33, 34, 35, 36, 37, 38, 39, 40, 41, 42, 43, 44, 52, 45, 46, 47, 48, 49, 50, 51] rfl
  have hD : va_D A (wJ cB cI cJ cZ cS a b s9) := by subst hs10; exact hD.sub [0, 1, 2, 3, 4, 5, 6, 7, 8, 9, 10, 11, 12, 13, 14, 15, 16, 17, 18, 19, 20, 21, 22, 23, 24, 25, 26, 27, 28, 29, 30, 31, 32, 33, 34, 35, 36, 37, 38, 39, 40, 41, 42, 43, 44, 52, 45, 46, 47, 48, 49, 50, 51] (by decide) rfl
  refine lv_iconst (v := 0) hx hb dX2_caseAtRank_29 (by decide) ?_
  refine lv_istore (lv' := [(5, .int 0), (4, .int r4), (3, .int r2), (0, .ref (a 36)), (1, .ref (b 0)), (2, .int x2)]) hx hb dX2_caseAtRank_30 hl (by decide) rfl (fun ls hl => ?_)
  refine lv_iconst (v := 0) hx hb dX2_caseAtRank_32 (by decide) ?_
  refine lv_istore (lv' := [(6, .int 0), (5, .int 0), (4, .int r4), (3, .int r2), (0, .ref (a 36)), (1, .ref (b 0)), (2, .int x2)]) hx hb dX2_caseAtRank_33 hl (by decide) rfl (fun ls hl => ?_)
  exact bkX2_caseAtRank_35L fu _ _ _ _ _ _ hB p e s0 m below meth c A E H locs ls hP hD hS (lv_sub hl [4, 6, 3, 2, 1, 0] rfl)
theorem ckX2_caseAtRank {l : Launch} {dC : Nat → ClassId} {dI : Nat → Nat → Nat} {cB cI cJ cZ cS : ClassId} {a b : Nat → Nat} {r : Int32} {s' : JS} {s : JS} {x2 : Int32} (hB : kX2_caseAtRank s x2 = some (r, s')) : CI l yX2_caseAtRank wsX2_caseAtRank ({ frames := 4, cells := 0, slots := 0, locals := 95 }) (dC, dI) (tysA cB cI cJ cZ cS) (wJ cB cI cJ cZ cS a b s) [.ref (a 36), .ref (b 0), .int x2] (fun x u => x = r ∧ u = (wJ cB cI cJ cZ cS a b s')) :=
  CI_of (cc := cX2_caseAtRank) (maxL := 9) (ret := (some .int)) (by decide) rfl (Nat.le_of_ble_eq_true rfl) (bkX2_caseAtRank _ _ hB)
theorem LX2_unfind_24 : Cond.fieldLink RX2 24 "GuessFerry$Outlook" "sound" "LGuessFerry$Sound;" ∈ wsX2_unfind := by decide +kernel
theorem LX2_unfind_I_X10 : Cond.initialized RX10 ∈ wsX2_unfind := by decide +kernel
theorem LX2_unfind_S_X10_has : Cond.static yX10_has ∈ wsX2_unfind := by decide +kernel
theorem inX2_unfind_X2 : ∀ w ∈ u_ws RX2 TX2 6, w ∈ wsX2_unfind := by decide +kernel
theorem inX2_unfind_X5 : ∀ w ∈ u_ws RX5 TX5 10, w ∈ wsX2_unfind := by decide +kernel
theorem inX2_unfind_X6 : ∀ w ∈ u_ws RX6 TX6 7, w ∈ wsX2_unfind := by decide +kernel
set_option maxHeartbeats 4000000 in
set_option maxRecDepth 100000 in
theorem bkX2_unfind_28 {l : Launch} {dC : Nat → ClassId} {dI : Nat → Nat → Nat} {cB cI cJ cZ cS : ClassId} {a b : Nat → Nat} {as : List Value} {s' : JS} {k2 : JS → Int32 → Int32 → Option JS} (hk2 : ∀ (s : JS) (x2 : Int32) (x3 : Int32), k2 s x2 x3 = some s' → BlkV l yX2_unfind wsX2_unfind ({ frames := 1, cells := 0, slots := 0, locals := 21 }) cX2_unfind 4 none (dC, dI) (tysA cB cI cJ cZ cS) as 2 (wJ cB cI cJ cZ cS a b s) [(0, .ref (a 36)), (1, .ref (b 0)), (2, .int x2), (3, .int x3)] [] (fun u => u = (wJ cB cI cJ cZ cS a b s'))) (s : JS) (x2 : Int32) (x3 : Int32) (hB : kX2_unfind_28 k2 s x2 x3 = some s') : BlkV l yX2_unfind wsX2_unfind ({ frames := 1, cells := 0, slots := 0, locals := 21 }) cX2_unfind 4 none (dC, dI) (tysA cB cI cJ cZ cS) as 28 (wJ cB cI cJ cZ cS a b s) [(0, .ref (a 36)), (1, .ref (b 0)), (2, .int x2), (3, .int x3)] [] (fun u => u = (wJ cB cI cJ cZ cS a b s')) := by
  intro p e s0 m below meth c A E H locs ls hP hD hS hl
  obtain ⟨C, hr, hlocks, hA, hK, hN⟩ := id E
  obtain ⟨hx, hb, hml, hown, hts⟩ := id C
  unfold kX2_unfind_28 at hB
  refine lv_iinc (v := (x3 + 1)) (lv' := [(3, .int (x3 + 1)), (0, .ref (a 36)), (1, .ref (b 0)), (2, .int x2)]) hx hb dX2_unfind_28 hl (k := 3) rfl (rfl) (by decide) rfl (fun ls hl => ?_)
  refine lv_goto (tgt := 2) hx hb dX2_unfind_31 (by decide) ?_
  exact hk2 _ _ _ hB p e s0 m below meth c A E H locs ls hP hD hS (lv_sub hl [1, 2, 3, 0] rfl)
set_option maxHeartbeats 4000000 in
set_option maxRecDepth 100000 in
theorem bkX2_unfind_2 {l : Launch} {dC : Nat → ClassId} {dI : Nat → Nat → Nat} {cB cI cJ cZ cS : ClassId} {a b : Nat → Nat} {as : List Value} {s' : JS} {k2 : JS → Int32 → Int32 → Option JS} (hk2 : ∀ (s : JS) (x2 : Int32) (x3 : Int32), k2 s x2 x3 = some s' → BlkV l yX2_unfind wsX2_unfind ({ frames := 1, cells := 0, slots := 0, locals := 21 }) cX2_unfind 4 none (dC, dI) (tysA cB cI cJ cZ cS) as 2 (wJ cB cI cJ cZ cS a b s) [(0, .ref (a 36)), (1, .ref (b 0)), (2, .int x2), (3, .int x3)] [] (fun u => u = (wJ cB cI cJ cZ cS a b s'))) (s : JS) (x2 : Int32) (x3 : Int32) (hB : kX2_unfind_2 k2 s x2 x3 = some s') : BlkV l yX2_unfind wsX2_unfind ({ frames := 1, cells := 0, slots := 0, locals := 21 }) cX2_unfind 4 none (dC, dI) (tysA cB cI cJ cZ cS) as 2 (wJ cB cI cJ cZ cS a b s) [(0, .ref (a 36)), (1, .ref (b 0)), (2, .int x2), (3, .int x3)] [] (fun u => u = (wJ cB cI cJ cZ cS a b s')) := by
  intro p e s0 m below meth c A E H locs ls hP hD hS hl
  obtain ⟨C, hr, hlocks, hA, hK, hN⟩ := id E
  obtain ⟨hx, hb, hml, hown, hts⟩ := id C
  unfold kX2_unfind_2 at hB
  refine lv_iload_n hx hb dX2_unfind_2 rfl (lv_at hl 3 rfl) ?_
  refine lv_aload_n hx hb dX2_unfind_3 rfl (lv_at hl 0 rfl) ?_
  refine q_get (v := .ref (a 2)) C inX2_unfind_X2 hK hP 42 rfl rfl 0 (by decide) rfl LX2_unfind_24 rfl dX2_unfind_4 ?_
  refine q_getN (v := .int (s.k.v 1)) C hN inX2_unfind_X5 hK hP 8 rfl rfl 6 (by decide) rfl nwF_X2_44 rfl dX2_unfind_7 ?_
  refine lv_icmp_ge (tgt := 34) hx hb dX2_unfind_10 (by decide) (fun c1 => ?_) (fun c1 => ?_)
  · have hB := if_p hB c1
    exact q_vret C hr hlocks hK hP hD hS (Nat.le_of_ble_eq_true rfl) (Nat.le_of_ble_eq_true rfl) dX2_unfind_34 (by cases hB; rfl)
  · have hB := if_n hB c1
    refine lv_iload_n hx hb dX2_unfind_13 rfl (lv_at hl 2 rfl) ?_
    refine lv_iload_n hx hb dX2_unfind_14 rfl (lv_at hl 3 rfl) ?_
    obtain ⟨q_, hc, hB⟩ := bindP_inv hB
    refine q_goi0 (va_runSN (As := [.int x2, .int x3]) (rest := []) C (ckX10_has hc _) ⟨va_cnB 2 hts gX2_unfind_X10_has_n57 rfl rfl rfl (hN _ nwM_X2_57 rfl) (hts _ LX2_unfind_I_X10) (by decide +kernel) ⟨Nat.le_of_ble_eq_true rfl, Nat.le_of_ble_eq_true rfl⟩, hts _ LX2_unfind_S_X10_has, trivial⟩ (q_pre0 hN hK) rfl rfl hl.1 rfl (lv_room (Nat.le_of_ble_eq_true rfl)) dX2_unfind_15 ⟨Nat.le_of_ble_eq_true rfl, Nat.le_of_ble_eq_true rfl⟩) hP hD hS hA (fun r2 w1 H locs hw hP hS => ?_)
    subst hw
    refine lv_if_eq (tgt := 28) hx hb dX2_unfind_18 (by decide) (fun c3 => ?_) (fun c3 => ?_)
    · have hB := if_p hB c3
      exact bkX2_unfind_28 (hk2) _ _ _ hB p e s0 m below meth c A E H locs ls hP hD hS (lv_sub hl [0, 1, 2, 3] rfl)
    · have hB := if_n hB c3
      refine lv_aload_n hx hb dX2_unfind_21 rfl (lv_at hl 1 rfl) ?_
      refine q_getN (v := .ref (b 1)) C hN inX2_unfind_X6 hK hP 0 rfl rfl 0 (by decide) rfl nwF_X2_128 rfl dX2_unfind_22 ?_
      refine lv_iload_n hx hb dX2_unfind_25 rfl (lv_at hl 3 rfl) ?_
      refine lv_iconst (v := (-1)) hx hb dX2_unfind_26 (by decide) ?_
      obtain ⟨g4, hB⟩ := guard_inv hB
      obtain ⟨s5, hs6, hB⟩ := letS_inv hB
      refine q_iast (f2 := (upd (s.d.f 0) (Int32.toNatClampNeg x3) (-1))) (w2 := (wJ cB cI cJ cZ cS a b s5)) C hK hP hD hS 1 1 rfl rfl (vpb_in g4) dX2_unfind_27 rfl (by subst hs6; rfl) (fun H locs hP hD hS => ?_)
      exact bkX2_unfind_28 (hk2) _ _ _ hB p e s0 m below meth c A E H locs ls hP hD hS (lv_sub hl [0, 1, 2, 3] rfl)
theorem bkX2_unfind_2L {l : Launch} {dC : Nat → ClassId} {dI : Nat → Nat → Nat} {cB cI cJ cZ cS : ClassId} {a b : Nat → Nat} {as : List Value} {s' : JS} : ∀ (n : Nat) (s : JS) (x2 : Int32) (x3 : Int32), kX2_unfind_2L n s x2 x3 = some s' → BlkV l yX2_unfind wsX2_unfind ({ frames := 1, cells := 0, slots := 0, locals := 21 }) cX2_unfind 4 none (dC, dI) (tysA cB cI cJ cZ cS) as 2 (wJ cB cI cJ cZ cS a b s) [(0, .ref (a 36)), (1, .ref (b 0)), (2, .int x2), (3, .int x3)] [] (fun u => u = (wJ cB cI cJ cZ cS a b s')) := by
  intro n
  induction n with
  | zero => intro s x2 x3 hB; exact none_ne hB
  | succ n ih => intro s x2 x3 hB; exact bkX2_unfind_2 ih _ _ _ hB
set_option maxHeartbeats 4000000 in
set_option maxRecDepth 100000 in
theorem bkX2_unfind {l : Launch} {dC : Nat → ClassId} {dI : Nat → Nat → Nat} {cB cI cJ cZ cS : ClassId} {a b : Nat → Nat} {as : List Value} {s' : JS} (s : JS) (x2 : Int32) (hB : kX2_unfind s x2 = some s') : BlkV l yX2_unfind wsX2_unfind ({ frames := 1, cells := 0, slots := 0, locals := 21 }) cX2_unfind 4 none (dC, dI) (tysA cB cI cJ cZ cS) as 0 (wJ cB cI cJ cZ cS a b s) [(0, .ref (a 36)), (1, .ref (b 0)), (2, .int x2)] [] (fun u => u = (wJ cB cI cJ cZ cS a b s')) := by
  intro p e s0 m below meth c A E H locs ls hP hD hS hl
  obtain ⟨C, hr, hlocks, hA, hK, hN⟩ := id E
  obtain ⟨hx, hb, hml, hown, hts⟩ := id C
  unfold kX2_unfind at hB
  refine lv_iconst (v := 0) hx hb dX2_unfind_0 (by decide) ?_
  refine lv_istore_n (lv' := [(3, .int 0), (0, .ref (a 36)), (1, .ref (b 0)), (2, .int x2)]) hx hb dX2_unfind_1 rfl hl (by decide) rfl (fun ls hl => ?_)
  exact bkX2_unfind_2L fu _ _ _ hB p e s0 m below meth c A E H locs ls hP hD hS (lv_sub hl [1, 2, 3, 0] rfl)
theorem ckX2_unfind {l : Launch} {dC : Nat → ClassId} {dI : Nat → Nat → Nat} {cB cI cJ cZ cS : ClassId} {a b : Nat → Nat} {s' : JS} {s : JS} {x2 : Int32} (hB : kX2_unfind s x2 = some s') : CV l yX2_unfind wsX2_unfind ({ frames := 1, cells := 0, slots := 0, locals := 21 }) (dC, dI) (tysA cB cI cJ cZ cS) (wJ cB cI cJ cZ cS a b s) [.ref (a 36), .ref (b 0), .int x2] (fun u => u = (wJ cB cI cJ cZ cS a b s')) :=
  CV_of (cc := cX2_unfind) (maxL := 4) (ret := none) (by decide) rfl (Nat.le_of_ble_eq_true rfl) (bkX2_unfind _ _ hB)
theorem LX4_readParty_12 : Cond.fieldLink RX4 12 "GuessFerry$Reader" "draft" "LGuessFerry$Sound;" ∈ wsX4_readParty := by decide +kernel
theorem LX4_readParty_18 : Cond.fieldLink RX4 18 "GuessFerry$Reader" "names" "[J" ∈ wsX4_readParty := by decide +kernel
theorem LX4_readParty_31 : Cond.fieldLink RX4 31 "GuessFerry$Reader" "tokens" "LGuessFerry$Tokens;" ∈ wsX4_readParty := by decide +kernel
theorem LX4_readParty_38 : Cond.fieldLink RX4 38 "GuessFerry$Reader" "at" "I" ∈ wsX4_readParty := by decide +kernel
theorem inX4_readParty_X4 : ∀ w ∈ u_ws RX4 TX4 8, w ∈ wsX4_readParty := by decide +kernel
theorem inX4_readParty_X5 : ∀ w ∈ u_ws RX5 TX5 10, w ∈ wsX4_readParty := by decide +kernel
theorem inX4_readParty_X9 : ∀ w ∈ u_ws RX9 TX9 7, w ∈ wsX4_readParty := by decide +kernel
set_option maxHeartbeats 4000000 in
set_option maxRecDepth 100000 in
theorem bkX4_readParty_73 {l : Launch} {dC : Nat → ClassId} {dI : Nat → Nat → Nat} {cB cI cJ cZ cS : ClassId} {a : Nat → Nat} {as : List Value} {s' : KS} (s : KS) (x1 : Int64) (hB : kX4_readParty_73 s x1 = some s') : BlkV l yX4_readParty wsX4_readParty ({ frames := 3, cells := 0, slots := 0, locals := 64 }) cX4_readParty 3 none (dC, dI) (tysA cB cI cJ cZ cS) as 73 (wK cB cI cJ cZ cS a s) [(0, .ref (a 28)), (1, .long x1)] [] (fun u => u = (wK cB cI cJ cZ cS a s')) := by
  intro p e s0 m below meth c A E H locs ls hP hD hS hl
  obtain ⟨C, hr, hlocks, hA, hK, hN⟩ := id E
  obtain ⟨hx, hb, hml, hown, hts⟩ := id C
  unfold kX4_readParty_73 at hB
  refine lv_aload_n hx hb dX4_readParty_73 rfl (lv_at hl 0 rfl) ?_
  refine lv_sipush (v := 300) hx hb dX4_readParty_74 (by decide) ?_
  obtain ⟨s1, hc, hB⟩ := bindP_inv hB
  refine q_govF (va_runV (As := [.int 300]) (rest := []) C (ckX4_take hc _) (cwV 1 hts gX4_readParty_X4_take rfl rfl rfl (by decide +kernel) ⟨Nat.le_of_ble_eq_true rfl, Nat.le_of_ble_eq_true rfl⟩) (q_preV hK hP (ci := 4) (q0 := 28) rfl rfl rfl (q_preF hN hK hP hD)) rfl rfl hl.1 rfl (lv_room (Nat.le_of_ble_eq_true rfl)) dX4_readParty_77 ⟨Nat.le_of_ble_eq_true rfl, Nat.le_of_ble_eq_true rfl⟩) hD hS hA (fun w1 H locs hw hP hD hS => ?_)
  subst hw
  refine lv_aload_n hx hb dX4_readParty_80 rfl (lv_at hl 0 rfl) ?_
  refine q_get (v := .ref (a 29)) C inX4_readParty_X4 hK hP 28 rfl rfl 2 (by decide) rfl LX4_readParty_18 rfl dX4_readParty_81 ?_
  refine lv_aload_n hx hb dX4_readParty_84 rfl (lv_at hl 0 rfl) ?_
  refine q_get (v := .ref (a 15)) C inX4_readParty_X4 hK hP 28 rfl rfl 1 (by decide) rfl LX4_readParty_12 rfl dX4_readParty_85 ?_
  refine q_getN (v := .int (s1.v 9)) C hN inX4_readParty_X5 hK hP 15 rfl rfl 7 (by decide) rfl nwF_X4_106 rfl dX4_readParty_88 ?_
  refine lv_lload_n hx hb dX4_readParty_91 rfl (lv_at hl 1 rfl) ?_
  obtain ⟨g2, hB⟩ := guard_inv hB
  obtain ⟨s3, hs4, hB⟩ := letS_inv hB
  refine q_last (f2 := (vp_updL (s1.g 29) (Int32.toNatClampNeg (s1.v 9)) x1)) (w2 := (wK cB cI cJ cZ cS a s3)) C hK hP hD hS 29 2 rfl rfl (vpb_in g2) dX4_readParty_92 rfl (by subst hs4; rfl) (fun H locs hP hD hS => ?_)
  refine lv_aload_n hx hb dX4_readParty_93 rfl (lv_at hl 0 rfl) ?_
  refine q_get (v := .ref (a 15)) C inX4_readParty_X4 hK hP 28 rfl rfl 1 (by decide) rfl LX4_readParty_12 rfl dX4_readParty_94 ?_
  refine q_getN (v := .ref (a 19)) C hN inX4_readParty_X5 hK hP 15 rfl rfl 3 (by decide) rfl nwF_X4_113 rfl dX4_readParty_97 ?_
  refine lv_aload_n hx hb dX4_readParty_100 rfl (lv_at hl 0 rfl) ?_
  refine q_get (v := .ref (a 15)) C inX4_readParty_X4 hK hP 28 rfl rfl 1 (by decide) rfl LX4_readParty_12 rfl dX4_readParty_101 ?_
  refine q_getN (v := .int (s3.v 9)) C hN inX4_readParty_X5 hK hP 15 rfl rfl 7 (by decide) rfl nwF_X4_106 rfl dX4_readParty_104 ?_
  refine lv_aload_n hx hb dX4_readParty_107 rfl (lv_at hl 0 rfl) ?_
  refine lv_bipush (v := 9) hx hb dX4_readParty_108 (by decide) ?_
  obtain ⟨q_, s5, hc, hB⟩ := bindI_inv hB
  refine q_goiF (va_runV (As := [.int 9]) (rest := [.int (s3.v 9), .ref (a 19)]) C (ckX4_takeInt hc _) (cwV 1 hts gX4_readParty_X4_takeInt rfl rfl rfl (by decide +kernel) ⟨Nat.le_of_ble_eq_true rfl, Nat.le_of_ble_eq_true rfl⟩) (q_preV hK hP (ci := 4) (q0 := 28) rfl rfl rfl (q_preF hN hK hP hD)) rfl rfl hl.1 rfl (lv_room (Nat.le_of_ble_eq_true rfl)) dX4_readParty_110 ⟨Nat.le_of_ble_eq_true rfl, Nat.le_of_ble_eq_true rfl⟩) hD hS hA (fun r6 w1 H locs hw hP hD hS => ?_)
  obtain ⟨hq_, hw⟩ := hw; subst hw; subst hq_
  obtain ⟨g7, hB⟩ := guard_inv hB
  obtain ⟨s8, hs9, hB⟩ := letS_inv hB
  refine q_iast (f2 := (upd (s5.f 19) (Int32.toNatClampNeg (s3.v 9)) r6)) (w2 := (wK cB cI cJ cZ cS a s8)) C hK hP hD hS 19 1 rfl rfl (vpb_in g7) dX4_readParty_113 rfl (by subst hs9; rfl) (fun H locs hP hD hS => ?_)
  refine lv_aload_n hx hb dX4_readParty_114 rfl (lv_at hl 0 rfl) ?_
  refine q_get (v := .ref (a 15)) C inX4_readParty_X4 hK hP 28 rfl rfl 1 (by decide) rfl LX4_readParty_12 rfl dX4_readParty_115 ?_
  refine q_getN (v := .ref (a 20)) C hN inX4_readParty_X5 hK hP 15 rfl rfl 4 (by decide) rfl nwF_X4_116 rfl dX4_readParty_118 ?_
  refine lv_aload_n hx hb dX4_readParty_121 rfl (lv_at hl 0 rfl) ?_
  refine q_get (v := .ref (a 15)) C inX4_readParty_X4 hK hP 28 rfl rfl 1 (by decide) rfl LX4_readParty_12 rfl dX4_readParty_122 ?_
  refine q_getN (v := .int (s8.v 9)) C hN inX4_readParty_X5 hK hP 15 rfl rfl 7 (by decide) rfl nwF_X4_106 rfl dX4_readParty_125 ?_
  refine lv_aload_n hx hb dX4_readParty_128 rfl (lv_at hl 0 rfl) ?_
  refine lv_bipush (v := 9) hx hb dX4_readParty_129 (by decide) ?_
  obtain ⟨q_, s10, hc, hB⟩ := bindI_inv hB
  refine q_goiF (va_runV (As := [.int 9]) (rest := [.int (s8.v 9), .ref (a 20)]) C (ckX4_takeInt hc _) (cwV 1 hts gX4_readParty_X4_takeInt rfl rfl rfl (by decide +kernel) ⟨Nat.le_of_ble_eq_true rfl, Nat.le_of_ble_eq_true rfl⟩) (q_preV hK hP (ci := 4) (q0 := 28) rfl rfl rfl (q_preF hN hK hP hD)) rfl rfl hl.1 rfl (lv_room (Nat.le_of_ble_eq_true rfl)) dX4_readParty_131 ⟨Nat.le_of_ble_eq_true rfl, Nat.le_of_ble_eq_true rfl⟩) hD hS hA (fun r11 w1 H locs hw hP hD hS => ?_)
  obtain ⟨hq_, hw⟩ := hw; subst hw; subst hq_
  obtain ⟨g12, hB⟩ := guard_inv hB
  obtain ⟨s13, hs14, hB⟩ := letS_inv hB
  refine q_iast (f2 := (upd (s10.f 20) (Int32.toNatClampNeg (s8.v 9)) r11)) (w2 := (wK cB cI cJ cZ cS a s13)) C hK hP hD hS 20 1 rfl rfl (vpb_in g12) dX4_readParty_134 rfl (by subst hs14; rfl) (fun H locs hP hD hS => ?_)
  refine lv_aload_n hx hb dX4_readParty_135 rfl (lv_at hl 0 rfl) ?_
  refine lv_bipush (v := 59) hx hb dX4_readParty_136 (by decide) ?_
  obtain ⟨s15, hc, hB⟩ := bindP_inv hB
  refine q_govF (va_runV (As := [.int 59]) (rest := []) C (ckX4_take hc _) (cwV 1 hts gX4_readParty_X4_take rfl rfl rfl (by decide +kernel) ⟨Nat.le_of_ble_eq_true rfl, Nat.le_of_ble_eq_true rfl⟩) (q_preV hK hP (ci := 4) (q0 := 28) rfl rfl rfl (q_preF hN hK hP hD)) rfl rfl hl.1 rfl (lv_room (Nat.le_of_ble_eq_true rfl)) dX4_readParty_138 ⟨Nat.le_of_ble_eq_true rfl, Nat.le_of_ble_eq_true rfl⟩) hD hS hA (fun w1 H locs hw hP hD hS => ?_)
  subst hw
  refine lv_aload_n hx hb dX4_readParty_141 rfl (lv_at hl 0 rfl) ?_
  refine q_get (v := .ref (a 15)) C inX4_readParty_X4 hK hP 28 rfl rfl 1 (by decide) rfl LX4_readParty_12 rfl dX4_readParty_142 ?_
  refine lv_dup hx hb dX4_readParty_145 rfl ?_
  refine q_getN (v := .int (s15.v 9)) C hN inX4_readParty_X5 hK hP 15 rfl rfl 7 (by decide) rfl nwF_X4_106 rfl dX4_readParty_146 ?_
  refine lv_iconst (v := 1) hx hb dX4_readParty_149 (by decide) ?_
  refine lv_iadd hx hb dX4_readParty_150 ?_
  obtain ⟨s16, hs17, hB⟩ := letS_inv hB
  refine q_putN (ty := .int) (w2 := (wK cB cI cJ cZ cS a s16)) tyX5 tyX5_ok nmX5 C hN inX4_readParty_X5 hK hP hD hS 15 rfl rfl 7 (by decide) rfl nwF_X4_106 rfl (by decide +kernel) (rfl) rfl (Nat.le_of_ble_eq_true rfl) dX4_readParty_151 (by subst hs17; rfl) (fun H locs hP hD hS => ?_)
  exact q_vret C hr hlocks hK hP hD hS (Nat.le_of_ble_eq_true rfl) (Nat.le_of_ble_eq_true rfl) dX4_readParty_154 (by cases hB; rfl)
set_option maxHeartbeats 4000000 in
set_option maxRecDepth 100000 in
theorem bkX4_readParty {l : Launch} {dC : Nat → ClassId} {dI : Nat → Nat → Nat} {cB cI cJ cZ cS : ClassId} {a : Nat → Nat} {as : List Value} {s' : KS} (s : KS) (hB : kX4_readParty s = some s') : BlkV l yX4_readParty wsX4_readParty ({ frames := 3, cells := 0, slots := 0, locals := 64 }) cX4_readParty 3 none (dC, dI) (tysA cB cI cJ cZ cS) as 0 (wK cB cI cJ cZ cS a s) [(0, .ref (a 28))] [] (fun u => u = (wK cB cI cJ cZ cS a s')) := by
  intro p e s0 m below meth c A E H locs ls hP hD hS hl
  obtain ⟨C, hr, hlocks, hA, hK, hN⟩ := id E
  obtain ⟨hx, hb, hml, hown, hts⟩ := id C
  unfold kX4_readParty at hB
  refine lv_aload_n hx hb dX4_readParty_0 rfl (lv_at hl 0 rfl) ?_
  refine q_get (v := .ref (a 15)) C inX4_readParty_X4 hK hP 28 rfl rfl 1 (by decide) rfl LX4_readParty_12 rfl dX4_readParty_1 ?_
  refine q_getN (v := .int (s.v 9)) C hN inX4_readParty_X5 hK hP 15 rfl rfl 7 (by decide) rfl nwF_X4_106 rfl dX4_readParty_4 ?_
  refine lv_bipush (v := 6) hx hb dX4_readParty_7 (by decide) ?_
  refine lv_icmp_lt (tgt := 18) hx hb dX4_readParty_9 (by decide) (fun c1 => ?_) (fun c1 => ?_)
  · have hB := if_p hB c1
    refine lv_aload_n hx hb dX4_readParty_18 rfl (lv_at hl 0 rfl) ?_
    refine lv_sipush (v := 257) hx hb dX4_readParty_19 (by decide) ?_
    obtain ⟨s2, hc, hB⟩ := bindP_inv hB
    refine q_govF (va_runV (As := [.int 257]) (rest := []) C (ckX4_take hc _) (cwV 1 hts gX4_readParty_X4_take rfl rfl rfl (by decide +kernel) ⟨Nat.le_of_ble_eq_true rfl, Nat.le_of_ble_eq_true rfl⟩) (q_preV hK hP (ci := 4) (q0 := 28) rfl rfl rfl (q_preF hN hK hP hD)) rfl rfl hl.1 rfl (lv_room (Nat.le_of_ble_eq_true rfl)) dX4_readParty_22 ⟨Nat.le_of_ble_eq_true rfl, Nat.le_of_ble_eq_true rfl⟩) hD hS hA (fun w1 H locs hw hP hD hS => ?_)
    subst hw
    refine lv_aload_n hx hb dX4_readParty_25 rfl (lv_at hl 0 rfl) ?_
    refine q_get (v := .ref (a 30)) C inX4_readParty_X4 hK hP 28 rfl rfl 0 (by decide) rfl LX4_readParty_31 rfl dX4_readParty_26 ?_
    refine q_getN (v := .ref (a 34)) C hN inX4_readParty_X9 hK hP 30 rfl rfl 4 (by decide) rfl nwF_X4_74 rfl dX4_readParty_29 ?_
    refine lv_aload_n hx hb dX4_readParty_32 rfl (lv_at hl 0 rfl) ?_
    refine q_get (v := .int (s2.v 15)) C inX4_readParty_X4 hK hP 28 rfl rfl 3 (by decide) rfl LX4_readParty_38 rfl dX4_readParty_33 ?_
    obtain ⟨g3, hB⟩ := guard_inv hB
    refine q_lald (x := ((s2.g 34) (Int32.toNatClampNeg (s2.v 15)))) C hK hP 34 2 rfl rfl (vpb_in g3) dX4_readParty_36 rfl ?_
    refine lv_lstore_n (lv' := [(1, .long ((s2.g 34) (Int32.toNatClampNeg (s2.v 15)))), (0, .ref (a 28))]) hx hb dX4_readParty_37 rfl hl (by decide) rfl (fun ls hl => ?_)
    refine lv_aload_n hx hb dX4_readParty_38 rfl (lv_at hl 1 rfl) ?_
    refine lv_sipush (v := 300) hx hb dX4_readParty_39 (by decide) ?_
    obtain ⟨q_, s4, hc, hB⟩ := bindI_inv hB
    refine q_goiF (va_runV (As := [.int 300]) (rest := []) C (ckX4_isAt hc _) (cwV 1 hts gX4_readParty_X4_isAt rfl rfl rfl (by decide +kernel) ⟨Nat.le_of_ble_eq_true rfl, Nat.le_of_ble_eq_true rfl⟩) (q_preV hK hP (ci := 4) (q0 := 28) rfl rfl rfl (q_preF hN hK hP hD)) rfl rfl hl.1 rfl (lv_room (Nat.le_of_ble_eq_true rfl)) dX4_readParty_42 ⟨Nat.le_of_ble_eq_true rfl, Nat.le_of_ble_eq_true rfl⟩) hD hS hA (fun r5 w1 H locs hw hP hD hS => ?_)
    obtain ⟨hq_, hw⟩ := hw; subst hw; subst hq_
    refine lv_if_eq (tgt := 73) hx hb dX4_readParty_45 (by decide) (fun c6 => ?_) (fun c6 => ?_)
    · have hB := if_p hB c6
      exact bkX4_readParty_73 _ _ hB p e s0 m below meth c A E H locs ls hP hD hS (lv_sub hl [1, 0] rfl)
    · have hB := if_n hB c6
      refine lv_aload_n hx hb dX4_readParty_48 rfl (lv_at hl 1 rfl) ?_
      refine lv_lload_n hx hb dX4_readParty_49 rfl (lv_at hl 0 rfl) ?_
      obtain ⟨q_, s7, hc, hB⟩ := bindI_inv hB
      refine q_goiF (va_runV (As := [.long ((s2.g 34) (Int32.toNatClampNeg (s2.v 15)))]) (rest := []) C (ckX4_isTold hc _) (cwV 1 hts gX4_readParty_X4_isTold rfl rfl rfl (by decide +kernel) ⟨Nat.le_of_ble_eq_true rfl, Nat.le_of_ble_eq_true rfl⟩) (q_preV hK hP (ci := 4) (q0 := 28) rfl rfl rfl (q_preF hN hK hP hD)) rfl rfl hl.1 rfl (lv_room (Nat.le_of_ble_eq_true rfl)) dX4_readParty_50 ⟨Nat.le_of_ble_eq_true rfl, Nat.le_of_ble_eq_true rfl⟩) hD hS hA (fun r8 w1 H locs hw hP hD hS => ?_)
      obtain ⟨hq_, hw⟩ := hw; subst hw; subst hq_
      refine lv_if_eq (tgt := 73) hx hb dX4_readParty_53 (by decide) (fun c9 => ?_) (fun c9 => ?_)
      · have hB := if_p hB c9
        exact bkX4_readParty_73 _ _ hB p e s0 m below meth c A E H locs ls hP hD hS (lv_sub hl [1, 0] rfl)
      · have hB := if_n hB c9
        refine lv_aload_n hx hb dX4_readParty_56 rfl (lv_at hl 1 rfl) ?_
        refine lv_iconst (v := 3) hx hb dX4_readParty_57 (by decide) ?_
        refine lv_aload_n hx hb dX4_readParty_58 rfl (lv_at hl 1 rfl) ?_
        refine q_get (v := .ref (a 30)) C inX4_readParty_X4 hK hP 28 rfl rfl 0 (by decide) rfl LX4_readParty_31 rfl dX4_readParty_59 ?_
        refine q_getN (v := .ref (a 33)) C hN inX4_readParty_X9 hK hP 30 rfl rfl 3 (by decide) rfl nwF_X4_67 rfl dX4_readParty_62 ?_
        refine lv_aload_n hx hb dX4_readParty_65 rfl (lv_at hl 1 rfl) ?_
        refine q_get (v := .int (s7.v 15)) C inX4_readParty_X4 hK hP 28 rfl rfl 3 (by decide) rfl LX4_readParty_38 rfl dX4_readParty_66 ?_
        obtain ⟨g10, hB⟩ := guard_inv hB
        refine q_iald (x := ((s7.f 33) (Int32.toNatClampNeg (s7.v 15)))) C hK hP 33 1 rfl rfl (vpb_in g10) dX4_readParty_69 rfl ?_
        obtain ⟨s11, hc, hB⟩ := bindP_inv hB
        refine q_govF (va_runV (As := [.int 3, .int ((s7.f 33) (Int32.toNatClampNeg (s7.v 15)))]) (rest := []) C (ckX4_failLater hc _) (cwV 2 hts gX4_readParty_X4_failLater rfl rfl rfl (by decide +kernel) ⟨Nat.le_of_ble_eq_true rfl, Nat.le_of_ble_eq_true rfl⟩) (q_preV hK hP (ci := 4) (q0 := 28) rfl rfl rfl (q_preF hN hK hP hD)) rfl rfl hl.1 rfl (lv_room (Nat.le_of_ble_eq_true rfl)) dX4_readParty_70 ⟨Nat.le_of_ble_eq_true rfl, Nat.le_of_ble_eq_true rfl⟩) hD hS hA (fun w1 H locs hw hP hD hS => ?_)
        subst hw
        exact bkX4_readParty_73 _ _ hB p e s0 m below meth c A E H locs ls hP hD hS (lv_sub hl [1, 0] rfl)
  · have hB := if_n hB c1
    refine lv_aload_n hx hb dX4_readParty_12 rfl (lv_at hl 0 rfl) ?_
    refine lv_iconst (v := 2) hx hb dX4_readParty_13 (by decide) ?_
    obtain ⟨s12, hc, hB⟩ := bindP_inv hB
    refine q_govF (va_runV (As := [.int 2]) (rest := []) C (ckX4_fail hc _) (cwV 1 hts gX4_readParty_X4_fail rfl rfl rfl (by decide +kernel) ⟨Nat.le_of_ble_eq_true rfl, Nat.le_of_ble_eq_true rfl⟩) (q_preV hK hP (ci := 4) (q0 := 28) rfl rfl rfl (q_preF hN hK hP hD)) rfl rfl hl.1 rfl (lv_room (Nat.le_of_ble_eq_true rfl)) dX4_readParty_14 ⟨Nat.le_of_ble_eq_true rfl, Nat.le_of_ble_eq_true rfl⟩) hD hS hA (fun w1 H locs hw hP hD hS => ?_)
    subst hw
    exact q_vret C hr hlocks hK hP hD hS (Nat.le_of_ble_eq_true rfl) (Nat.le_of_ble_eq_true rfl) dX4_readParty_17 (by cases hB; rfl)
theorem ckX4_readParty {l : Launch} {dC : Nat → ClassId} {dI : Nat → Nat → Nat} {cB cI cJ cZ cS : ClassId} {a : Nat → Nat} {s' : KS} {s : KS} (hB : kX4_readParty s = some s') : CV l yX4_readParty wsX4_readParty ({ frames := 3, cells := 0, slots := 0, locals := 64 }) (dC, dI) (tysA cB cI cJ cZ cS) (wK cB cI cJ cZ cS a s) [.ref (a 28)] (fun u => u = (wK cB cI cJ cZ cS a s')) :=
  CV_of (cc := cX4_readParty) (maxL := 3) (ret := none) (by decide) rfl (Nat.le_of_ble_eq_true rfl) (bkX4_readParty _ hB)
