theorem ggX5_addUp_X5_oddsAt : GoodIn wsX5_addUp wsX5_oddsAt := gi_sub (fun w h => List.mem_cons_of_mem _ (List.mem_append_left _ (List.mem_append_right _ h))) gd_wsX5_oddsAt
set_option maxRecDepth 20000 in
theorem gX5_addUp_X5_oddsAt : GoodIn wsX5_addUp (wsV RX5 51 RX5 yX5_oddsAt wsX5_oddsAt) := goodIn_app (goodIn_r _ [5, 6, 7, 8] (by decide +kernel) (by decide +kernel)) ggX5_addUp_X5_oddsAt
theorem dX5_addUp_0 : decode cX5_addUp 0 = .ok (.aload_n 0, 1) := dc1_42 (by decide +kernel)
theorem dX5_addUp_1 : decode cX5_addUp 1 = .ok (.iconst 1, 1) := dc1_4 (by decide +kernel)
theorem dX5_addUp_2 : decode cX5_addUp 2 = .ok (.putfield 44, 3) := dcw_181 (by decide +kernel)
theorem dX5_addUp_5 : decode cX5_addUp 5 = .ok (.iconst 0, 1) := dc1_3 (by decide +kernel)
theorem dX5_addUp_6 : decode cX5_addUp 6 = .ok (.istore_n 1, 1) := dc1_60 (by decide +kernel)
theorem dX5_addUp_7 : decode cX5_addUp 7 = .ok (.iload_n 1, 1) := dc1_27 (by decide +kernel)
theorem dX5_addUp_8 : decode cX5_addUp 8 = .ok (.aload_n 0, 1) := dc1_42 (by decide +kernel)
theorem dX5_addUp_9 : decode cX5_addUp 9 = .ok (.getfield 37, 3) := dcw_180 (by decide +kernel)
theorem dX5_addUp_12 : decode cX5_addUp 12 = .ok (.if_icmp .ge 88, 3) := dcs_162 (n := 88) (by decide +kernel)
theorem dX5_addUp_15 : decode cX5_addUp 15 = .ok (.aload_n 0, 1) := dc1_42 (by decide +kernel)
theorem dX5_addUp_16 : decode cX5_addUp 16 = .ok (.getfield 15, 3) := dcw_180 (by decide +kernel)
theorem dX5_addUp_19 : decode cX5_addUp 19 = .ok (.iload_n 1, 1) := dc1_27 (by decide +kernel)
theorem dX5_addUp_20 : decode cX5_addUp 20 = .ok (.iconst 0, 1) := dc1_3 (by decide +kernel)
theorem dX5_addUp_21 : decode cX5_addUp 21 = .ok (.iastore, 1) := dc1_79 (by decide +kernel)
theorem dX5_addUp_22 : decode cX5_addUp 22 = .ok (.aload_n 0, 1) := dc1_42 (by decide +kernel)
theorem dX5_addUp_23 : decode cX5_addUp 23 = .ok (.getfield 18, 3) := dcw_180 (by decide +kernel)
theorem dX5_addUp_26 : decode cX5_addUp 26 = .ok (.iload_n 1, 1) := dc1_27 (by decide +kernel)
theorem dX5_addUp_27 : decode cX5_addUp 27 = .ok (.iconst 0, 1) := dc1_3 (by decide +kernel)
theorem dX5_addUp_28 : decode cX5_addUp 28 = .ok (.iastore, 1) := dc1_79 (by decide +kernel)
theorem dX5_addUp_29 : decode cX5_addUp 29 = .ok (.iconst 0, 1) := dc1_3 (by decide +kernel)
theorem dX5_addUp_30 : decode cX5_addUp 30 = .ok (.istore_n 2, 1) := dc1_61 (by decide +kernel)
theorem dX5_addUp_31 : decode cX5_addUp 31 = .ok (.iload_n 2, 1) := dc1_28 (by decide +kernel)
theorem dX5_addUp_32 : decode cX5_addUp 32 = .ok (.bipush 6, 2) := dcb_16 (n := 6) (by decide +kernel)
theorem dX5_addUp_34 : decode cX5_addUp 34 = .ok (.if_icmp .ge 49, 3) := dcs_162 (n := 49) (by decide +kernel)
theorem dX5_addUp_37 : decode cX5_addUp 37 = .ok (.aload_n 0, 1) := dc1_42 (by decide +kernel)
theorem dX5_addUp_38 : decode cX5_addUp 38 = .ok (.getfield 15, 3) := dcw_180 (by decide +kernel)
theorem dX5_addUp_41 : decode cX5_addUp 41 = .ok (.iload_n 1, 1) := dc1_27 (by decide +kernel)
theorem dX5_addUp_42 : decode cX5_addUp 42 = .ok (.dup2, 1) := dc1_92 (by decide +kernel)
theorem dX5_addUp_43 : decode cX5_addUp 43 = .ok (.iaload, 1) := dc1_46 (by decide +kernel)
theorem dX5_addUp_44 : decode cX5_addUp 44 = .ok (.aload_n 0, 1) := dc1_42 (by decide +kernel)
theorem dX5_addUp_45 : decode cX5_addUp 45 = .ok (.iload_n 1, 1) := dc1_27 (by decide +kernel)
theorem dX5_addUp_46 : decode cX5_addUp 46 = .ok (.iload_n 2, 1) := dc1_28 (by decide +kernel)
theorem dX5_addUp_47 : decode cX5_addUp 47 = .ok (.invokevirtual 51, 3) := dcw_182 (by decide +kernel)
theorem dX5_addUp_50 : decode cX5_addUp 50 = .ok (.iadd, 1) := dc1_96 (by decide +kernel)
theorem dX5_addUp_51 : decode cX5_addUp 51 = .ok (.iastore, 1) := dc1_79 (by decide +kernel)
theorem dX5_addUp_52 : decode cX5_addUp 52 = .ok (.aload_n 0, 1) := dc1_42 (by decide +kernel)
theorem dX5_addUp_53 : decode cX5_addUp 53 = .ok (.getfield 18, 3) := dcw_180 (by decide +kernel)
theorem dX5_addUp_56 : decode cX5_addUp 56 = .ok (.iload_n 1, 1) := dc1_27 (by decide +kernel)
theorem dX5_addUp_57 : decode cX5_addUp 57 = .ok (.dup2, 1) := dc1_92 (by decide +kernel)
theorem dX5_addUp_58 : decode cX5_addUp 58 = .ok (.iaload, 1) := dc1_46 (by decide +kernel)
theorem dX5_addUp_59 : decode cX5_addUp 59 = .ok (.aload_n 0, 1) := dc1_42 (by decide +kernel)
theorem dX5_addUp_60 : decode cX5_addUp 60 = .ok (.iload_n 1, 1) := dc1_27 (by decide +kernel)
theorem dX5_addUp_61 : decode cX5_addUp 61 = .ok (.iload_n 2, 1) := dc1_28 (by decide +kernel)
theorem dX5_addUp_62 : decode cX5_addUp 62 = .ok (.invokevirtual 51, 3) := dcw_182 (by decide +kernel)
theorem dX5_addUp_65 : decode cX5_addUp 65 = .ok (.ifCond .le 9, 3) := dcs_158 (n := 9) (by decide +kernel)
theorem dX5_addUp_68 : decode cX5_addUp 68 = .ok (.iconst 1, 1) := dc1_4 (by decide +kernel)
theorem dX5_addUp_69 : decode cX5_addUp 69 = .ok (.iload_n 2, 1) := dc1_28 (by decide +kernel)
theorem dX5_addUp_70 : decode cX5_addUp 70 = .ok (.ishl, 1) := dc1_120 (by decide +kernel)
theorem dX5_addUp_71 : decode cX5_addUp 71 = .ok (.goto 4, 3) := dcs_167 (n := 4) (by decide +kernel)
theorem dX5_addUp_74 : decode cX5_addUp 74 = .ok (.iconst 0, 1) := dc1_3 (by decide +kernel)
theorem dX5_addUp_75 : decode cX5_addUp 75 = .ok (.ior, 1) := dc1_128 (by decide +kernel)
theorem dX5_addUp_76 : decode cX5_addUp 76 = .ok (.iastore, 1) := dc1_79 (by decide +kernel)
theorem dX5_addUp_77 : decode cX5_addUp 77 = .ok (.iinc 2 1, 3) := dc_iinc (m := 1) (by decide +kernel)
theorem dX5_addUp_80 : decode cX5_addUp 80 = .ok (.goto (-49), 3) := dcs_167 (n := 65487) (by decide +kernel)
theorem dX5_addUp_83 : decode cX5_addUp 83 = .ok (.aload_n 0, 1) := dc1_42 (by decide +kernel)
theorem dX5_addUp_84 : decode cX5_addUp 84 = .ok (.dup, 1) := dc1_89 (by decide +kernel)
theorem dX5_addUp_85 : decode cX5_addUp 85 = .ok (.getfield 44, 3) := dcw_180 (by decide +kernel)
theorem dX5_addUp_88 : decode cX5_addUp 88 = .ok (.bipush 6, 2) := dcb_16 (n := 6) (by decide +kernel)
theorem dX5_addUp_90 : decode cX5_addUp 90 = .ok (.imul, 1) := dc1_104 (by decide +kernel)
theorem dX5_addUp_91 : decode cX5_addUp 91 = .ok (.putfield 44, 3) := dcw_181 (by decide +kernel)
theorem dX5_addUp_94 : decode cX5_addUp 94 = .ok (.iinc 1 1, 3) := dc_iinc (m := 1) (by decide +kernel)
theorem dX5_addUp_97 : decode cX5_addUp 97 = .ok (.goto (-90), 3) := dcs_167 (n := 65446) (by decide +kernel)
theorem dX5_addUp_100 : decode cX5_addUp 100 = .ok (.return_, 1) := dc1_177 (by decide +kernel)
theorem ggX6_startOver_J7_fill_53178 : GoodIn wsX6_startOver wsJ7_fill_53178 := gi_sub (fun w h => List.mem_cons_of_mem _ (List.mem_append_left _ (List.mem_append_right _ h))) gd_wsJ7_fill_53178
set_option maxRecDepth 20000 in
theorem gX6_startOver_J7_fill_53178 : GoodIn wsX6_startOver (va_wsS RX6 27 yJ7_fill_53178 wsJ7_fill_53178) := goodIn_app (goodIn_of _ (by decide +kernel)) ggX6_startOver_J7_fill_53178
theorem dX6_startOver_0 : decode cX6_startOver 0 = .ok (.aload_n 0, 1) := dc1_42 (by decide +kernel)
theorem dX6_startOver_1 : decode cX6_startOver 1 = .ok (.getfield 9, 3) := dcw_180 (by decide +kernel)
theorem dX6_startOver_4 : decode cX6_startOver 4 = .ok (.iconst (-1), 1) := dc1_2 (by decide +kernel)
theorem dX6_startOver_5 : decode cX6_startOver 5 = .ok (.invokestatic 27, 3) := dcw_184 (by decide +kernel)
theorem dX6_startOver_8 : decode cX6_startOver 8 = .ok (.aload_n 0, 1) := dc1_42 (by decide +kernel)
theorem dX6_startOver_9 : decode cX6_startOver 9 = .ok (.getfield 15, 3) := dcw_180 (by decide +kernel)
theorem dX6_startOver_12 : decode cX6_startOver 12 = .ok (.iconst 0, 1) := dc1_3 (by decide +kernel)
theorem dX6_startOver_13 : decode cX6_startOver 13 = .ok (.invokestatic 27, 3) := dcw_184 (by decide +kernel)
theorem dX6_startOver_16 : decode cX6_startOver 16 = .ok (.aload_n 0, 1) := dc1_42 (by decide +kernel)
theorem dX6_startOver_17 : decode cX6_startOver 17 = .ok (.getfield 18, 3) := dcw_180 (by decide +kernel)
theorem dX6_startOver_20 : decode cX6_startOver 20 = .ok (.iconst 0, 1) := dc1_3 (by decide +kernel)
theorem dX6_startOver_21 : decode cX6_startOver 21 = .ok (.invokestatic 27, 3) := dcw_184 (by decide +kernel)
theorem dX6_startOver_24 : decode cX6_startOver 24 = .ok (.aload_n 0, 1) := dc1_42 (by decide +kernel)
theorem dX6_startOver_25 : decode cX6_startOver 25 = .ok (.getfield 21, 3) := dcw_180 (by decide +kernel)
theorem dX6_startOver_28 : decode cX6_startOver 28 = .ok (.iconst 0, 1) := dc1_3 (by decide +kernel)
theorem dX6_startOver_29 : decode cX6_startOver 29 = .ok (.invokestatic 27, 3) := dcw_184 (by decide +kernel)
theorem dX6_startOver_32 : decode cX6_startOver 32 = .ok (.aload_n 0, 1) := dc1_42 (by decide +kernel)
theorem dX6_startOver_33 : decode cX6_startOver 33 = .ok (.getfield 24, 3) := dcw_180 (by decide +kernel)
theorem dX6_startOver_36 : decode cX6_startOver 36 = .ok (.iconst 0, 1) := dc1_3 (by decide +kernel)
theorem dX6_startOver_37 : decode cX6_startOver 37 = .ok (.invokestatic 27, 3) := dcw_184 (by decide +kernel)
theorem dX6_startOver_40 : decode cX6_startOver 40 = .ok (.aload_n 0, 1) := dc1_42 (by decide +kernel)
theorem dX6_startOver_41 : decode cX6_startOver 41 = .ok (.iconst 0, 1) := dc1_3 (by decide +kernel)
theorem dX6_startOver_42 : decode cX6_startOver 42 = .ok (.putfield 33, 3) := dcw_181 (by decide +kernel)
theorem dX6_startOver_45 : decode cX6_startOver 45 = .ok (.aload_n 0, 1) := dc1_42 (by decide +kernel)
theorem dX6_startOver_46 : decode cX6_startOver 46 = .ok (.iconst 0, 1) := dc1_3 (by decide +kernel)
theorem dX6_startOver_47 : decode cX6_startOver 47 = .ok (.putfield 37, 3) := dcw_181 (by decide +kernel)
theorem dX6_startOver_50 : decode cX6_startOver 50 = .ok (.return_, 1) := dc1_177 (by decide +kernel)
theorem ggX8_beliedBy_X10_has : GoodIn wsX8_beliedBy wsX10_has := gi_sub (fun w h => List.mem_cons_of_mem _ (List.mem_append_left _ (List.mem_append_right _ h))) gd_wsX10_has
set_option maxRecDepth 20000 in
theorem gX8_beliedBy_X10_has_n50 : GoodIn wsX8_beliedBy (wsX10_has) := ggX8_beliedBy_X10_has
theorem dX8_beliedBy_0 : decode cX8_beliedBy 0 = .ok (.iconst 0, 1) := dc1_3 (by decide +kernel)
theorem dX8_beliedBy_1 : decode cX8_beliedBy 1 = .ok (.istore 4, 2) := dcu_54 (by decide +kernel)
theorem dX8_beliedBy_3 : decode cX8_beliedBy 3 = .ok (.iconst 0, 1) := dc1_3 (by decide +kernel)
theorem dX8_beliedBy_4 : decode cX8_beliedBy 4 = .ok (.istore 5, 2) := dcu_54 (by decide +kernel)
theorem dX8_beliedBy_6 : decode cX8_beliedBy 6 = .ok (.iload 5, 2) := dcu_21 (by decide +kernel)
theorem dX8_beliedBy_8 : decode cX8_beliedBy 8 = .ok (.iload_n 3, 1) := dc1_29 (by decide +kernel)
theorem dX8_beliedBy_9 : decode cX8_beliedBy 9 = .ok (.if_icmp .ge 37, 3) := dcs_162 (n := 37) (by decide +kernel)
theorem dX8_beliedBy_12 : decode cX8_beliedBy 12 = .ok (.aload_n 0, 1) := dc1_42 (by decide +kernel)
theorem dX8_beliedBy_13 : decode cX8_beliedBy 13 = .ok (.getfield 9, 3) := dcw_180 (by decide +kernel)
theorem dX8_beliedBy_16 : decode cX8_beliedBy 16 = .ok (.iload 5, 2) := dcu_21 (by decide +kernel)
theorem dX8_beliedBy_18 : decode cX8_beliedBy 18 = .ok (.iaload, 1) := dc1_46 (by decide +kernel)
theorem dX8_beliedBy_19 : decode cX8_beliedBy 19 = .ok (.iload_n 1, 1) := dc1_27 (by decide +kernel)
theorem dX8_beliedBy_20 : decode cX8_beliedBy 20 = .ok (.if_icmp .ne 20, 3) := dcs_160 (n := 20) (by decide +kernel)
theorem dX8_beliedBy_23 : decode cX8_beliedBy 23 = .ok (.aload_n 0, 1) := dc1_42 (by decide +kernel)
theorem dX8_beliedBy_24 : decode cX8_beliedBy 24 = .ok (.getfield 15, 3) := dcw_180 (by decide +kernel)
theorem dX8_beliedBy_27 : decode cX8_beliedBy 27 = .ok (.iload 5, 2) := dcu_21 (by decide +kernel)
theorem dX8_beliedBy_29 : decode cX8_beliedBy 29 = .ok (.iaload, 1) := dc1_46 (by decide +kernel)
theorem dX8_beliedBy_30 : decode cX8_beliedBy 30 = .ok (.iload_n 2, 1) := dc1_28 (by decide +kernel)
theorem dX8_beliedBy_31 : decode cX8_beliedBy 31 = .ok (.invokestatic 50, 3) := dcw_184 (by decide +kernel)
theorem dX8_beliedBy_34 : decode cX8_beliedBy 34 = .ok (.ifCond .ne 6, 3) := dcs_154 (n := 6) (by decide +kernel)
theorem dX8_beliedBy_37 : decode cX8_beliedBy 37 = .ok (.iinc 4 1, 3) := dc_iinc (m := 1) (by decide +kernel)
theorem dX8_beliedBy_40 : decode cX8_beliedBy 40 = .ok (.iinc 5 1, 3) := dc_iinc (m := 1) (by decide +kernel)
theorem dX8_beliedBy_43 : decode cX8_beliedBy 43 = .ok (.goto (-37), 3) := dcs_167 (n := 65499) (by decide +kernel)
theorem dX8_beliedBy_46 : decode cX8_beliedBy 46 = .ok (.iload 4, 2) := dcu_21 (by decide +kernel)
theorem dX8_beliedBy_48 : decode cX8_beliedBy 48 = .ok (.ireturn, 1) := dc1_172 (by decide +kernel)
theorem ggX8_sortByLies_J7_fill_53178 : GoodIn wsX8_sortByLies wsJ7_fill_53178 := gi_sub (fun w h => List.mem_cons_of_mem _ (List.mem_append_left _ (List.mem_append_left _ (List.mem_append_right _ (List.mem_append_left _ h))))) gd_wsJ7_fill_53178
set_option maxRecDepth 20000 in
theorem gX8_sortByLies_J7_fill_53178 : GoodIn wsX8_sortByLies (va_wsS RX8 62 yJ7_fill_53178 wsJ7_fill_53178) := goodIn_app (goodIn_of _ (by decide +kernel)) ggX8_sortByLies_J7_fill_53178
theorem ggX8_sortByLies_X8_withWave : GoodIn wsX8_sortByLies wsX8_withWave := gi_sub (fun w h => List.mem_cons_of_mem _ (List.mem_append_left _ (List.mem_append_left _ (List.mem_append_right _ (List.mem_append_right _ h))))) gd_wsX8_withWave
set_option maxRecDepth 20000 in
theorem gX8_sortByLies_X8_withWave : GoodIn wsX8_sortByLies (wsV RX8 68 RX8 yX8_withWave wsX8_withWave) := goodIn_app (goodIn_r _ [6, 7, 8, 9] (by decide +kernel) (by decide +kernel)) ggX8_sortByLies_X8_withWave
theorem dX8_sortByLies_0 : decode cX8_sortByLies 0 = .ok (.aload_n 0, 1) := dc1_42 (by decide +kernel)
theorem dX8_sortByLies_1 : decode cX8_sortByLies 1 = .ok (.getfield 24, 3) := dcw_180 (by decide +kernel)
theorem dX8_sortByLies_4 : decode cX8_sortByLies 4 = .ok (.iconst 0, 1) := dc1_3 (by decide +kernel)
theorem dX8_sortByLies_5 : decode cX8_sortByLies 5 = .ok (.invokestatic 62, 3) := dcw_184 (by decide +kernel)
theorem dX8_sortByLies_8 : decode cX8_sortByLies 8 = .ok (.aload_n 0, 1) := dc1_42 (by decide +kernel)
theorem dX8_sortByLies_9 : decode cX8_sortByLies 9 = .ok (.getfield 24, 3) := dcw_180 (by decide +kernel)
theorem dX8_sortByLies_12 : decode cX8_sortByLies 12 = .ok (.iconst 0, 1) := dc1_3 (by decide +kernel)
theorem dX8_sortByLies_13 : decode cX8_sortByLies 13 = .ok (.iconst 1, 1) := dc1_4 (by decide +kernel)
theorem dX8_sortByLies_14 : decode cX8_sortByLies 14 = .ok (.iastore, 1) := dc1_79 (by decide +kernel)
theorem dX8_sortByLies_15 : decode cX8_sortByLies 15 = .ok (.iconst 0, 1) := dc1_3 (by decide +kernel)
theorem dX8_sortByLies_16 : decode cX8_sortByLies 16 = .ok (.istore_n 3, 1) := dc1_62 (by decide +kernel)
theorem dX8_sortByLies_17 : decode cX8_sortByLies 17 = .ok (.iload_n 3, 1) := dc1_29 (by decide +kernel)
theorem dX8_sortByLies_18 : decode cX8_sortByLies 18 = .ok (.aload_n 0, 1) := dc1_42 (by decide +kernel)
theorem dX8_sortByLies_19 : decode cX8_sortByLies 19 = .ok (.getfield 27, 3) := dcw_180 (by decide +kernel)
theorem dX8_sortByLies_22 : decode cX8_sortByLies 22 = .ok (.getfield 39, 3) := dcw_180 (by decide +kernel)
theorem dX8_sortByLies_25 : decode cX8_sortByLies 25 = .ok (.if_icmp .ge 43, 3) := dcs_162 (n := 43) (by decide +kernel)
theorem dX8_sortByLies_28 : decode cX8_sortByLies 28 = .ok (.iload_n 3, 1) := dc1_29 (by decide +kernel)
theorem dX8_sortByLies_29 : decode cX8_sortByLies 29 = .ok (.iload_n 1, 1) := dc1_27 (by decide +kernel)
theorem dX8_sortByLies_30 : decode cX8_sortByLies 30 = .ok (.if_icmp .eq 32, 3) := dcs_159 (n := 32) (by decide +kernel)
theorem dX8_sortByLies_33 : decode cX8_sortByLies 33 = .ok (.iconst 3, 1) := dc1_6 (by decide +kernel)
theorem dX8_sortByLies_34 : decode cX8_sortByLies 34 = .ok (.istore 4, 2) := dcu_54 (by decide +kernel)
theorem dX8_sortByLies_36 : decode cX8_sortByLies 36 = .ok (.iload 4, 2) := dcu_21 (by decide +kernel)
theorem dX8_sortByLies_38 : decode cX8_sortByLies 38 = .ok (.ifCond .lt 24, 3) := dcs_155 (n := 24) (by decide +kernel)
theorem dX8_sortByLies_41 : decode cX8_sortByLies 41 = .ok (.aload_n 0, 1) := dc1_42 (by decide +kernel)
theorem dX8_sortByLies_42 : decode cX8_sortByLies 42 = .ok (.getfield 24, 3) := dcw_180 (by decide +kernel)
theorem dX8_sortByLies_45 : decode cX8_sortByLies 45 = .ok (.iload 4, 2) := dcu_21 (by decide +kernel)
theorem dX8_sortByLies_47 : decode cX8_sortByLies 47 = .ok (.aload_n 0, 1) := dc1_42 (by decide +kernel)
theorem dX8_sortByLies_48 : decode cX8_sortByLies 48 = .ok (.iload_n 3, 1) := dc1_29 (by decide +kernel)
theorem dX8_sortByLies_49 : decode cX8_sortByLies 49 = .ok (.iload 4, 2) := dcu_21 (by decide +kernel)
theorem dX8_sortByLies_51 : decode cX8_sortByLies 51 = .ok (.iload_n 2, 1) := dc1_28 (by decide +kernel)
theorem dX8_sortByLies_52 : decode cX8_sortByLies 52 = .ok (.invokevirtual 68, 3) := dcw_182 (by decide +kernel)
theorem dX8_sortByLies_55 : decode cX8_sortByLies 55 = .ok (.iastore, 1) := dc1_79 (by decide +kernel)
theorem dX8_sortByLies_56 : decode cX8_sortByLies 56 = .ok (.iinc 4 (-1), 3) := dc_iinc (m := 255) (by decide +kernel)
theorem dX8_sortByLies_59 : decode cX8_sortByLies 59 = .ok (.goto (-23), 3) := dcs_167 (n := 65513) (by decide +kernel)
theorem dX8_sortByLies_62 : decode cX8_sortByLies 62 = .ok (.iinc 3 1, 3) := dc_iinc (m := 1) (by decide +kernel)
theorem dX8_sortByLies_65 : decode cX8_sortByLies 65 = .ok (.goto (-48), 3) := dcs_167 (n := 65488) (by decide +kernel)
theorem dX8_sortByLies_68 : decode cX8_sortByLies 68 = .ok (.return_, 1) := dc1_177 (by decide +kernel)
theorem ggX8_fitting_X8_sortByLies : GoodIn wsX8_fitting wsX8_sortByLies := gi_sub (fun w h => List.mem_cons_of_mem _ (List.mem_append_left _ (List.mem_append_left _ (List.mem_append_right _ (List.mem_append_left _ h))))) gd_wsX8_sortByLies
set_option maxRecDepth 20000 in
theorem gX8_fitting_X8_sortByLies : GoodIn wsX8_fitting (wsV RX8 72 RX8 yX8_sortByLies wsX8_sortByLies) := goodIn_app (goodIn_r _ [1, 2, 3, 4] (by decide +kernel) (by decide +kernel)) ggX8_fitting_X8_sortByLies
theorem ggX8_fitting_X8_upTo : GoodIn wsX8_fitting wsX8_upTo := gi_sub (fun w h => List.mem_cons_of_mem _ (List.mem_append_left _ (List.mem_append_left _ (List.mem_append_right _ (List.mem_append_right _ h))))) gd_wsX8_upTo
set_option maxRecDepth 20000 in
theorem gX8_fitting_X8_upTo : GoodIn wsX8_fitting (wsV RX8 76 RX8 yX8_upTo wsX8_upTo) := goodIn_app (goodIn_r _ [5, 6, 7, 4] (by decide +kernel) (by decide +kernel)) ggX8_fitting_X8_upTo
theorem dX8_fitting_0 : decode cX8_fitting 0 = .ok (.aload_n 0, 1) := dc1_42 (by decide +kernel)
theorem dX8_fitting_1 : decode cX8_fitting 1 = .ok (.iconst (-1), 1) := dc1_2 (by decide +kernel)
theorem dX8_fitting_2 : decode cX8_fitting 2 = .ok (.iload_n 2, 1) := dc1_28 (by decide +kernel)
theorem dX8_fitting_3 : decode cX8_fitting 3 = .ok (.invokevirtual 72, 3) := dcw_182 (by decide +kernel)
theorem dX8_fitting_6 : decode cX8_fitting 6 = .ok (.aload_n 0, 1) := dc1_42 (by decide +kernel)
theorem dX8_fitting_7 : decode cX8_fitting 7 = .ok (.iload_n 1, 1) := dc1_27 (by decide +kernel)
theorem dX8_fitting_8 : decode cX8_fitting 8 = .ok (.invokevirtual 76, 3) := dcw_182 (by decide +kernel)
theorem dX8_fitting_11 : decode cX8_fitting 11 = .ok (.ireturn, 1) := dc1_172 (by decide +kernel)
theorem ggX8_liars_X8_sortByLies : GoodIn wsX8_liars wsX8_sortByLies := gi_sub (fun w h => List.mem_cons_of_mem _ (List.mem_append_left _ (List.mem_append_left _ (List.mem_append_right _ (List.mem_append_left _ h))))) gd_wsX8_sortByLies
set_option maxRecDepth 20000 in
theorem gX8_liars_X8_sortByLies : GoodIn wsX8_liars (wsV RX8 72 RX8 yX8_sortByLies wsX8_sortByLies) := goodIn_app (goodIn_r _ [4, 5, 6, 7] (by decide +kernel) (by decide +kernel)) ggX8_liars_X8_sortByLies
theorem ggX8_liars_X8_fittingWith : GoodIn wsX8_liars wsX8_fittingWith := gi_sub (fun w h => List.mem_cons_of_mem _ (List.mem_append_left _ (List.mem_append_left _ (List.mem_append_right _ (List.mem_append_right _ h))))) gd_wsX8_fittingWith
set_option maxRecDepth 20000 in
theorem gX8_liars_X8_fittingWith : GoodIn wsX8_liars (wsV RX8 80 RX8 yX8_fittingWith wsX8_fittingWith) := goodIn_app (goodIn_r _ [8, 9, 10, 7] (by decide +kernel) (by decide +kernel)) ggX8_liars_X8_fittingWith
theorem dX8_liars_0 : decode cX8_liars 0 = .ok (.iconst 0, 1) := dc1_3 (by decide +kernel)
theorem dX8_liars_1 : decode cX8_liars 1 = .ok (.istore_n 3, 1) := dc1_62 (by decide +kernel)
theorem dX8_liars_2 : decode cX8_liars 2 = .ok (.iconst 0, 1) := dc1_3 (by decide +kernel)
theorem dX8_liars_3 : decode cX8_liars 3 = .ok (.istore 4, 2) := dcu_54 (by decide +kernel)
theorem dX8_liars_5 : decode cX8_liars 5 = .ok (.iload 4, 2) := dcu_21 (by decide +kernel)
theorem dX8_liars_7 : decode cX8_liars 7 = .ok (.aload_n 0, 1) := dc1_42 (by decide +kernel)
theorem dX8_liars_8 : decode cX8_liars 8 = .ok (.getfield 27, 3) := dcw_180 (by decide +kernel)
theorem dX8_liars_11 : decode cX8_liars 11 = .ok (.getfield 39, 3) := dcw_180 (by decide +kernel)
theorem dX8_liars_14 : decode cX8_liars 14 = .ok (.if_icmp .ge 111, 3) := dcs_162 (n := 111) (by decide +kernel)
theorem dX8_liars_17 : decode cX8_liars 17 = .ok (.aload_n 0, 1) := dc1_42 (by decide +kernel)
theorem dX8_liars_18 : decode cX8_liars 18 = .ok (.iload 4, 2) := dcu_21 (by decide +kernel)
theorem dX8_liars_20 : decode cX8_liars 20 = .ok (.iconst 0, 1) := dc1_3 (by decide +kernel)
theorem dX8_liars_21 : decode cX8_liars 21 = .ok (.invokevirtual 72, 3) := dcw_182 (by decide +kernel)
theorem dX8_liars_24 : decode cX8_liars 24 = .ok (.iconst 0, 1) := dc1_3 (by decide +kernel)
theorem dX8_liars_25 : decode cX8_liars 25 = .ok (.istore 5, 2) := dcu_54 (by decide +kernel)
theorem dX8_liars_27 : decode cX8_liars 27 = .ok (.iconst 0, 1) := dc1_3 (by decide +kernel)
theorem dX8_liars_28 : decode cX8_liars 28 = .ok (.istore 6, 2) := dcu_54 (by decide +kernel)
theorem dX8_liars_30 : decode cX8_liars 30 = .ok (.iload 6, 2) := dcu_21 (by decide +kernel)
theorem dX8_liars_32 : decode cX8_liars 32 = .ok (.bipush 6, 2) := dcb_16 (n := 6) (by decide +kernel)
theorem dX8_liars_34 : decode cX8_liars 34 = .ok (.if_icmp .ge 34, 3) := dcs_162 (n := 34) (by decide +kernel)
theorem dX8_liars_37 : decode cX8_liars 37 = .ok (.iload 5, 2) := dcu_21 (by decide +kernel)
theorem dX8_liars_39 : decode cX8_liars 39 = .ok (.aload_n 0, 1) := dc1_42 (by decide +kernel)
theorem dX8_liars_40 : decode cX8_liars 40 = .ok (.iload 4, 2) := dcu_21 (by decide +kernel)
theorem dX8_liars_42 : decode cX8_liars 42 = .ok (.iload 6, 2) := dcu_21 (by decide +kernel)
theorem dX8_liars_44 : decode cX8_liars 44 = .ok (.iload_n 2, 1) := dc1_28 (by decide +kernel)
theorem dX8_liars_45 : decode cX8_liars 45 = .ok (.invokevirtual 80, 3) := dcw_182 (by decide +kernel)
theorem dX8_liars_48 : decode cX8_liars 48 = .ok (.ifCond .le 10, 3) := dcs_158 (n := 10) (by decide +kernel)
theorem dX8_liars_51 : decode cX8_liars 51 = .ok (.iconst 1, 1) := dc1_4 (by decide +kernel)
theorem dX8_liars_52 : decode cX8_liars 52 = .ok (.iload 6, 2) := dcu_21 (by decide +kernel)
theorem dX8_liars_54 : decode cX8_liars 54 = .ok (.ishl, 1) := dc1_120 (by decide +kernel)
theorem dX8_liars_55 : decode cX8_liars 55 = .ok (.goto 4, 3) := dcs_167 (n := 4) (by decide +kernel)
theorem dX8_liars_58 : decode cX8_liars 58 = .ok (.iconst 0, 1) := dc1_3 (by decide +kernel)
theorem dX8_liars_59 : decode cX8_liars 59 = .ok (.ior, 1) := dc1_128 (by decide +kernel)
theorem dX8_liars_60 : decode cX8_liars 60 = .ok (.istore 5, 2) := dcu_54 (by decide +kernel)
theorem dX8_liars_62 : decode cX8_liars 62 = .ok (.iinc 6 1, 3) := dc_iinc (m := 1) (by decide +kernel)
theorem dX8_liars_65 : decode cX8_liars 65 = .ok (.goto (-35), 3) := dcs_167 (n := 65501) (by decide +kernel)
theorem dX8_liars_68 : decode cX8_liars 68 = .ok (.iconst 0, 1) := dc1_3 (by decide +kernel)
theorem dX8_liars_69 : decode cX8_liars 69 = .ok (.istore 6, 2) := dcu_54 (by decide +kernel)
theorem dX8_liars_71 : decode cX8_liars 71 = .ok (.iload 6, 2) := dcu_21 (by decide +kernel)
theorem dX8_liars_73 : decode cX8_liars 73 = .ok (.iload_n 1, 1) := dc1_27 (by decide +kernel)
theorem dX8_liars_74 : decode cX8_liars 74 = .ok (.if_icmp .ge 45, 3) := dcs_162 (n := 45) (by decide +kernel)
theorem dX8_liars_77 : decode cX8_liars 77 = .ok (.iload_n 3, 1) := dc1_29 (by decide +kernel)
theorem dX8_liars_78 : decode cX8_liars 78 = .ok (.aload_n 0, 1) := dc1_42 (by decide +kernel)
theorem dX8_liars_79 : decode cX8_liars 79 = .ok (.getfield 9, 3) := dcw_180 (by decide +kernel)
theorem dX8_liars_82 : decode cX8_liars 82 = .ok (.iload 6, 2) := dcu_21 (by decide +kernel)
theorem dX8_liars_84 : decode cX8_liars 84 = .ok (.iaload, 1) := dc1_46 (by decide +kernel)
theorem dX8_liars_85 : decode cX8_liars 85 = .ok (.iload 4, 2) := dcu_21 (by decide +kernel)
theorem dX8_liars_87 : decode cX8_liars 87 = .ok (.if_icmp .ne 23, 3) := dcs_160 (n := 23) (by decide +kernel)
theorem dX8_liars_90 : decode cX8_liars 90 = .ok (.aload_n 0, 1) := dc1_42 (by decide +kernel)
theorem dX8_liars_91 : decode cX8_liars 91 = .ok (.getfield 15, 3) := dcw_180 (by decide +kernel)
theorem dX8_liars_94 : decode cX8_liars 94 = .ok (.iload 6, 2) := dcu_21 (by decide +kernel)
theorem dX8_liars_96 : decode cX8_liars 96 = .ok (.iaload, 1) := dc1_46 (by decide +kernel)
theorem dX8_liars_97 : decode cX8_liars 97 = .ok (.iload 5, 2) := dcu_21 (by decide +kernel)
theorem dX8_liars_99 : decode cX8_liars 99 = .ok (.iand, 1) := dc1_126 (by decide +kernel)
theorem dX8_liars_100 : decode cX8_liars 100 = .ok (.ifCond .ne 10, 3) := dcs_154 (n := 10) (by decide +kernel)
theorem dX8_liars_103 : decode cX8_liars 103 = .ok (.iconst 1, 1) := dc1_4 (by decide +kernel)
theorem dX8_liars_104 : decode cX8_liars 104 = .ok (.iload 6, 2) := dcu_21 (by decide +kernel)
theorem dX8_liars_106 : decode cX8_liars 106 = .ok (.ishl, 1) := dc1_120 (by decide +kernel)
theorem dX8_liars_107 : decode cX8_liars 107 = .ok (.goto 4, 3) := dcs_167 (n := 4) (by decide +kernel)
theorem dX8_liars_110 : decode cX8_liars 110 = .ok (.iconst 0, 1) := dc1_3 (by decide +kernel)
theorem dX8_liars_111 : decode cX8_liars 111 = .ok (.ior, 1) := dc1_128 (by decide +kernel)
theorem dX8_liars_112 : decode cX8_liars 112 = .ok (.istore_n 3, 1) := dc1_62 (by decide +kernel)
theorem dX8_liars_113 : decode cX8_liars 113 = .ok (.iinc 6 1, 3) := dc_iinc (m := 1) (by decide +kernel)
theorem dX8_liars_116 : decode cX8_liars 116 = .ok (.goto (-45), 3) := dcs_167 (n := 65491) (by decide +kernel)
theorem dX8_liars_119 : decode cX8_liars 119 = .ok (.iinc 4 1, 3) := dc_iinc (m := 1) (by decide +kernel)
theorem dX8_liars_122 : decode cX8_liars 122 = .ok (.goto (-117), 3) := dcs_167 (n := 65419) (by decide +kernel)
theorem dX8_liars_125 : decode cX8_liars 125 = .ok (.iload_n 3, 1) := dc1_29 (by decide +kernel)
theorem dX8_liars_126 : decode cX8_liars 126 = .ok (.ireturn, 1) := dc1_172 (by decide +kernel)
theorem LX5_addUp_15 : Cond.fieldLink RX5 15 "GuessFerry$Sound" "oddsSums" "[I" ∈ wsX5_addUp := by decide +kernel
theorem LX5_addUp_18 : Cond.fieldLink RX5 18 "GuessFerry$Sound" "likely" "[I" ∈ wsX5_addUp := by decide +kernel
theorem LX5_addUp_37 : Cond.fieldLink RX5 37 "GuessFerry$Sound" "waves" "I" ∈ wsX5_addUp := by decide +kernel
theorem LX5_addUp_44 : Cond.fieldLink RX5 44 "GuessFerry$Sound" "guesses" "I" ∈ wsX5_addUp := by decide +kernel
theorem inX5_addUp_X5 : ∀ w ∈ u_ws RX5 TX5 10, w ∈ wsX5_addUp := by decide +kernel
set_option maxHeartbeats 4000000 in
set_option maxRecDepth 100000 in
theorem bkX5_addUp_75 {l : Launch} {dC : Nat → ClassId} {dI : Nat → Nat → Nat} {cB cI cJ cZ cS : ClassId} {a : Nat → Nat} {as : List Value} {s' : KS} {k7 : KS → Int32 → Option KS} {k31 : KS → Int32 → Int32 → Option KS} (hk7 : ∀ (s : KS) (x1 : Int32), k7 s x1 = some s' → BlkV l yX5_addUp wsX5_addUp ({ frames := 1, cells := 0, slots := 0, locals := 22 }) cX5_addUp 3 none (dC, dI) (tysA cB cI cJ cZ cS) as 7 (wK cB cI cJ cZ cS a s) [(0, .ref (a 15)), (1, .int x1)] [] (fun u => u = (wK cB cI cJ cZ cS a s'))) (hk31 : ∀ (s : KS) (x1 : Int32) (x2 : Int32), k31 s x1 x2 = some s' → BlkV l yX5_addUp wsX5_addUp ({ frames := 1, cells := 0, slots := 0, locals := 22 }) cX5_addUp 3 none (dC, dI) (tysA cB cI cJ cZ cS) as 31 (wK cB cI cJ cZ cS a s) [(0, .ref (a 15)), (1, .int x1), (2, .int x2)] [] (fun u => u = (wK cB cI cJ cZ cS a s'))) (s : KS) (x1 : Int32) (x2 : Int32) (t0 : Int32) (t1 : Int32) (t2 : Int32) (hB : kX5_addUp_75 k7 k31 s x1 x2 t0 t1 t2 = some s') : BlkV l yX5_addUp wsX5_addUp ({ frames := 1, cells := 0, slots := 0, locals := 22 }) cX5_addUp 3 none (dC, dI) (tysA cB cI cJ cZ cS) as 75 (wK cB cI cJ cZ cS a s) [(0, .ref (a 15)), (1, .int x1), (2, .int x2)] [.int t0, .int t1, .int t2, .ref (a 18)] (fun u => u = (wK cB cI cJ cZ cS a s')) := by
  intro p e s0 m below meth c A E H locs ls hP hD hS hl
  obtain ⟨C, hr, hlocks, hA, hK, hN⟩ := id E
  obtain ⟨hx, hb, hml, hown, hts⟩ := id C
  unfold kX5_addUp_75 at hB
  refine lv_ior hx hb dX5_addUp_75 ?_
  obtain ⟨g1, hB⟩ := guard_inv hB
  obtain ⟨s2, hs3, hB⟩ := letS_inv hB
  refine q_iast (f2 := (upd (s.f 18) (Int32.toNatClampNeg t2) (t1 ||| t0))) (w2 := (wK cB cI cJ cZ cS a s2)) C hK hP hD hS 18 1 rfl rfl (vpb_in g1) dX5_addUp_76 rfl (by subst hs3; rfl) (fun H locs hP hD hS => ?_)
  refine lv_iinc (v := (x2 + 1)) (lv' := [(2, .int (x2 + 1)), (0, .ref (a 15)), (1, .int x1)]) hx hb dX5_addUp_77 hl (k := 2) rfl (rfl) (by decide) rfl (fun ls hl => ?_)
  refine lv_goto (tgt := 31) hx hb dX5_addUp_80 (by decide) ?_
  exact hk31 _ _ _ hB p e s0 m below meth c A E H locs ls hP hD hS (lv_sub hl [1, 2, 0] rfl)
set_option maxHeartbeats 4000000 in
set_option maxRecDepth 100000 in
theorem bkX5_addUp_31 {l : Launch} {dC : Nat → ClassId} {dI : Nat → Nat → Nat} {cB cI cJ cZ cS : ClassId} {a : Nat → Nat} {as : List Value} {s' : KS} {k7 : KS → Int32 → Option KS} {k31 : KS → Int32 → Int32 → Option KS} (hk7 : ∀ (s : KS) (x1 : Int32), k7 s x1 = some s' → BlkV l yX5_addUp wsX5_addUp ({ frames := 1, cells := 0, slots := 0, locals := 22 }) cX5_addUp 3 none (dC, dI) (tysA cB cI cJ cZ cS) as 7 (wK cB cI cJ cZ cS a s) [(0, .ref (a 15)), (1, .int x1)] [] (fun u => u = (wK cB cI cJ cZ cS a s'))) (hk31 : ∀ (s : KS) (x1 : Int32) (x2 : Int32), k31 s x1 x2 = some s' → BlkV l yX5_addUp wsX5_addUp ({ frames := 1, cells := 0, slots := 0, locals := 22 }) cX5_addUp 3 none (dC, dI) (tysA cB cI cJ cZ cS) as 31 (wK cB cI cJ cZ cS a s) [(0, .ref (a 15)), (1, .int x1), (2, .int x2)] [] (fun u => u = (wK cB cI cJ cZ cS a s'))) (s : KS) (x1 : Int32) (x2 : Int32) (hB : kX5_addUp_31 k7 k31 s x1 x2 = some s') : BlkV l yX5_addUp wsX5_addUp ({ frames := 1, cells := 0, slots := 0, locals := 22 }) cX5_addUp 3 none (dC, dI) (tysA cB cI cJ cZ cS) as 31 (wK cB cI cJ cZ cS a s) [(0, .ref (a 15)), (1, .int x1), (2, .int x2)] [] (fun u => u = (wK cB cI cJ cZ cS a s')) := by
  intro p e s0 m below meth c A E H locs ls hP hD hS hl
  obtain ⟨C, hr, hlocks, hA, hK, hN⟩ := id E
  obtain ⟨hx, hb, hml, hown, hts⟩ := id C
  unfold kX5_addUp_31 at hB
  refine lv_iload_n hx hb dX5_addUp_31 rfl (lv_at hl 2 rfl) ?_
  refine lv_bipush (v := 6) hx hb dX5_addUp_32 (by decide) ?_
  refine lv_icmp_ge (tgt := 83) hx hb dX5_addUp_34 (by decide) (fun c1 => ?_) (fun c1 => ?_)
  · have hB := if_p hB c1
    refine lv_aload_n hx hb dX5_addUp_83 rfl (lv_at hl 0 rfl) ?_
    refine lv_dup hx hb dX5_addUp_84 rfl ?_
    refine q_get (v := .int (s.v 10)) C inX5_addUp_X5 hK hP 15 rfl rfl 8 (by decide) rfl LX5_addUp_44 rfl dX5_addUp_85 ?_
    refine lv_bipush (v := 6) hx hb dX5_addUp_88 (by decide) ?_
    refine lv_imul hx hb dX5_addUp_90 ?_
    obtain ⟨s2, hs3, hB⟩ := letS_inv hB
    refine q_put (ty := .int) (w2 := (wK cB cI cJ cZ cS a s2)) tyX5 tyX5_ok nmX5 C inX5_addUp_X5 hK hP hD hS 15 rfl rfl 8 (by decide) rfl LX5_addUp_44 rfl (by decide +kernel) (rfl) rfl (Nat.le_of_ble_eq_true rfl) dX5_addUp_91 (by subst hs3; rfl) (fun H locs hP hD hS => ?_)
    refine lv_iinc (v := (x1 + 1)) (lv' := [(1, .int (x1 + 1)), (0, .ref (a 15)), (2, .int x2)]) hx hb dX5_addUp_94 hl (k := 1) rfl (rfl) (by decide) rfl (fun ls hl => ?_)
    refine lv_goto (tgt := 7) hx hb dX5_addUp_97 (by decide) ?_
    exact hk7 _ _ hB p e s0 m below meth c A E H locs ls hP hD hS (lv_sub hl [1, 0] rfl)
  · have hB := if_n hB c1
    refine lv_aload_n hx hb dX5_addUp_37 rfl (lv_at hl 0 rfl) ?_
    refine q_get (v := .ref (a 17)) C inX5_addUp_X5 hK hP 15 rfl rfl 1 (by decide) rfl LX5_addUp_15 rfl dX5_addUp_38 ?_
    refine lv_iload_n hx hb dX5_addUp_41 rfl (lv_at hl 1 rfl) ?_
    refine lv_dup2_11 hx hb dX5_addUp_42 rfl rfl ?_
    obtain ⟨g4, hB⟩ := guard_inv hB
    refine q_iald (x := ((s.f 17) (Int32.toNatClampNeg x1))) C hK hP 17 1 rfl rfl (vpb_in g4) dX5_addUp_43 rfl ?_
    refine lv_aload_n hx hb dX5_addUp_44 rfl (lv_at hl 0 rfl) ?_
    refine lv_iload_n hx hb dX5_addUp_45 rfl (lv_at hl 1 rfl) ?_
    refine lv_iload_n hx hb dX5_addUp_46 rfl (lv_at hl 2 rfl) ?_
    obtain ⟨q_, s5, hc, hB⟩ := bindI_inv hB
    refine q_goiF (va_runV (As := [.int x1, .int x2]) (rest := [.int ((s.f 17) (Int32.toNatClampNeg x1)), .int x1, .ref (a 17)]) C (ckX5_oddsAt_d hc _) (cwV 2 hts gX5_addUp_X5_oddsAt rfl rfl rfl (by decide +kernel) ⟨Nat.le_of_ble_eq_true rfl, Nat.le_of_ble_eq_true rfl⟩) (q_preV hK hP (ci := 5) (q0 := 15) rfl rfl rfl (q_preF hN hK hP hD)) rfl rfl hl.1 rfl (lv_room (Nat.le_of_ble_eq_true rfl)) dX5_addUp_47 ⟨Nat.le_of_ble_eq_true rfl, Nat.le_of_ble_eq_true rfl⟩) hD hS hA (fun r6 w1 H locs hw hP hD hS => ?_)
    obtain ⟨hq_, hw⟩ := hw; subst hw; subst hq_
    refine lv_iadd hx hb dX5_addUp_50 ?_
    obtain ⟨g7, hB⟩ := guard_inv hB
    obtain ⟨s8, hs9, hB⟩ := letS_inv hB
    refine q_iast (f2 := (upd (s5.f 17) (Int32.toNatClampNeg x1) (((s.f 17) (Int32.toNatClampNeg x1)) + r6))) (w2 := (wK cB cI cJ cZ cS a s8)) C hK hP hD hS 17 1 rfl rfl (vpb_in g7) dX5_addUp_51 rfl (by subst hs9; rfl) (fun H locs hP hD hS => ?_)
    refine lv_aload_n hx hb dX5_addUp_52 rfl (lv_at hl 0 rfl) ?_
    refine q_get (v := .ref (a 18)) C inX5_addUp_X5 hK hP 15 rfl rfl 2 (by decide) rfl LX5_addUp_18 rfl dX5_addUp_53 ?_
    refine lv_iload_n hx hb dX5_addUp_56 rfl (lv_at hl 1 rfl) ?_
    refine lv_dup2_11 hx hb dX5_addUp_57 rfl rfl ?_
    obtain ⟨g10, hB⟩ := guard_inv hB
    refine q_iald (x := ((s8.f 18) (Int32.toNatClampNeg x1))) C hK hP 18 1 rfl rfl (vpb_in g10) dX5_addUp_58 rfl ?_
    refine lv_aload_n hx hb dX5_addUp_59 rfl (lv_at hl 0 rfl) ?_
    refine lv_iload_n hx hb dX5_addUp_60 rfl (lv_at hl 1 rfl) ?_
    refine lv_iload_n hx hb dX5_addUp_61 rfl (lv_at hl 2 rfl) ?_
    obtain ⟨q_, s11, hc, hB⟩ := bindI_inv hB
    refine q_goiF (va_runV (As := [.int x1, .int x2]) (rest := [.int ((s8.f 18) (Int32.toNatClampNeg x1)), .int x1, .ref (a 18)]) C (ckX5_oddsAt_d hc _) (cwV 2 hts gX5_addUp_X5_oddsAt rfl rfl rfl (by decide +kernel) ⟨Nat.le_of_ble_eq_true rfl, Nat.le_of_ble_eq_true rfl⟩) (q_preV hK hP (ci := 5) (q0 := 15) rfl rfl rfl (q_preF hN hK hP hD)) rfl rfl hl.1 rfl (lv_room (Nat.le_of_ble_eq_true rfl)) dX5_addUp_62 ⟨Nat.le_of_ble_eq_true rfl, Nat.le_of_ble_eq_true rfl⟩) hD hS hA (fun r12 w1 H locs hw hP hD hS => ?_)
    obtain ⟨hq_, hw⟩ := hw; subst hw; subst hq_
    refine lv_if_le (tgt := 74) hx hb dX5_addUp_65 (by decide) (fun c13 => ?_) (fun c13 => ?_)
    · have hB := if_p hB c13
      refine lv_iconst (v := 0) hx hb dX5_addUp_74 (by decide) ?_
      exact bkX5_addUp_75 (hk7) (hk31) _ _ _ _ _ _ hB p e s0 m below meth c A E H locs ls hP hD hS (lv_sub hl [0, 1, 2] rfl)
    · have hB := if_n hB c13
      refine lv_iconst (v := 1) hx hb dX5_addUp_68 (by decide) ?_
      refine lv_iload_n hx hb dX5_addUp_69 rfl (lv_at hl 2 rfl) ?_
      refine lv_ishl hx hb dX5_addUp_70 ?_
      refine lv_goto (tgt := 75) hx hb dX5_addUp_71 (by decide) ?_
      exact bkX5_addUp_75 (hk7) (hk31) _ _ _ _ _ _ hB p e s0 m below meth c A E H locs ls hP hD hS (lv_sub hl [0, 1, 2] rfl)
theorem bkX5_addUp_31L {l : Launch} {dC : Nat → ClassId} {dI : Nat → Nat → Nat} {cB cI cJ cZ cS : ClassId} {a : Nat → Nat} {as : List Value} {s' : KS} {k7 : KS → Int32 → Option KS} (hk7 : ∀ (s : KS) (x1 : Int32), k7 s x1 = some s' → BlkV l yX5_addUp wsX5_addUp ({ frames := 1, cells := 0, slots := 0, locals := 22 }) cX5_addUp 3 none (dC, dI) (tysA cB cI cJ cZ cS) as 7 (wK cB cI cJ cZ cS a s) [(0, .ref (a 15)), (1, .int x1)] [] (fun u => u = (wK cB cI cJ cZ cS a s'))) : ∀ (n : Nat) (s : KS) (x1 : Int32) (x2 : Int32), kX5_addUp_31L k7 n s x1 x2 = some s' → BlkV l yX5_addUp wsX5_addUp ({ frames := 1, cells := 0, slots := 0, locals := 22 }) cX5_addUp 3 none (dC, dI) (tysA cB cI cJ cZ cS) as 31 (wK cB cI cJ cZ cS a s) [(0, .ref (a 15)), (1, .int x1), (2, .int x2)] [] (fun u => u = (wK cB cI cJ cZ cS a s')) := by
  intro n
  induction n with
  | zero => intro s x1 x2 hB; exact none_ne hB
  | succ n ih => intro s x1 x2 hB; exact bkX5_addUp_31 hk7 ih _ _ _ hB
set_option maxHeartbeats 4000000 in
set_option maxRecDepth 100000 in
theorem bkX5_addUp_7 {l : Launch} {dC : Nat → ClassId} {dI : Nat → Nat → Nat} {cB cI cJ cZ cS : ClassId} {a : Nat → Nat} {as : List Value} {s' : KS} {k7 : KS → Int32 → Option KS} (hk7 : ∀ (s : KS) (x1 : Int32), k7 s x1 = some s' → BlkV l yX5_addUp wsX5_addUp ({ frames := 1, cells := 0, slots := 0, locals := 22 }) cX5_addUp 3 none (dC, dI) (tysA cB cI cJ cZ cS) as 7 (wK cB cI cJ cZ cS a s) [(0, .ref (a 15)), (1, .int x1)] [] (fun u => u = (wK cB cI cJ cZ cS a s'))) (s : KS) (x1 : Int32) (hB : kX5_addUp_7 k7 s x1 = some s') : BlkV l yX5_addUp wsX5_addUp ({ frames := 1, cells := 0, slots := 0, locals := 22 }) cX5_addUp 3 none (dC, dI) (tysA cB cI cJ cZ cS) as 7 (wK cB cI cJ cZ cS a s) [(0, .ref (a 15)), (1, .int x1)] [] (fun u => u = (wK cB cI cJ cZ cS a s')) := by
  intro p e s0 m below meth c A E H locs ls hP hD hS hl
  obtain ⟨C, hr, hlocks, hA, hK, hN⟩ := id E
  obtain ⟨hx, hb, hml, hown, hts⟩ := id C
  unfold kX5_addUp_7 at hB
  refine lv_iload_n hx hb dX5_addUp_7 rfl (lv_at hl 1 rfl) ?_
  refine lv_aload_n hx hb dX5_addUp_8 rfl (lv_at hl 0 rfl) ?_
  refine q_get (v := .int (s.v 8)) C inX5_addUp_X5 hK hP 15 rfl rfl 6 (by decide) rfl LX5_addUp_37 rfl dX5_addUp_9 ?_
  refine lv_icmp_ge (tgt := 100) hx hb dX5_addUp_12 (by decide) (fun c1 => ?_) (fun c1 => ?_)
  · have hB := if_p hB c1
    exact q_vret C hr hlocks hK hP hD hS (Nat.le_of_ble_eq_true rfl) (Nat.le_of_ble_eq_true rfl) dX5_addUp_100 (by cases hB; rfl)
  · have hB := if_n hB c1
    refine lv_aload_n hx hb dX5_addUp_15 rfl (lv_at hl 0 rfl) ?_
    refine q_get (v := .ref (a 17)) C inX5_addUp_X5 hK hP 15 rfl rfl 1 (by decide) rfl LX5_addUp_15 rfl dX5_addUp_16 ?_
    refine lv_iload_n hx hb dX5_addUp_19 rfl (lv_at hl 1 rfl) ?_
    refine lv_iconst (v := 0) hx hb dX5_addUp_20 (by decide) ?_
    obtain ⟨g2, hB⟩ := guard_inv hB
    obtain ⟨s3, hs4, hB⟩ := letS_inv hB
    refine q_iast (f2 := (upd (s.f 17) (Int32.toNatClampNeg x1) 0)) (w2 := (wK cB cI cJ cZ cS a s3)) C hK hP hD hS 17 1 rfl rfl (vpb_in g2) dX5_addUp_21 rfl (by subst hs4; rfl) (fun H locs hP hD hS => ?_)
    refine lv_aload_n hx hb dX5_addUp_22 rfl (lv_at hl 0 rfl) ?_
    refine q_get (v := .ref (a 18)) C inX5_addUp_X5 hK hP 15 rfl rfl 2 (by decide) rfl LX5_addUp_18 rfl dX5_addUp_23 ?_
    refine lv_iload_n hx hb dX5_addUp_26 rfl (lv_at hl 1 rfl) ?_
    refine lv_iconst (v := 0) hx hb dX5_addUp_27 (by decide) ?_
    obtain ⟨g5, hB⟩ := guard_inv hB
    obtain ⟨s6, hs7, hB⟩ := letS_inv hB
    refine q_iast (f2 := (upd (s3.f 18) (Int32.toNatClampNeg x1) 0)) (w2 := (wK cB cI cJ cZ cS a s6)) C hK hP hD hS 18 1 rfl rfl (vpb_in g5) dX5_addUp_28 rfl (by subst hs7; rfl) (fun H locs hP hD hS => ?_)
    refine lv_iconst (v := 0) hx hb dX5_addUp_29 (by decide) ?_
    refine lv_istore_n (lv' := [(2, .int 0), (0, .ref (a 15)), (1, .int x1)]) hx hb dX5_addUp_30 rfl hl (by decide) rfl (fun ls hl => ?_)
    exact bkX5_addUp_31L (hk7) fu _ _ _ hB p e s0 m below meth c A E H locs ls hP hD hS (lv_sub hl [1, 2, 0] rfl)
theorem bkX5_addUp_7L {l : Launch} {dC : Nat → ClassId} {dI : Nat → Nat → Nat} {cB cI cJ cZ cS : ClassId} {a : Nat → Nat} {as : List Value} {s' : KS} : ∀ (n : Nat) (s : KS) (x1 : Int32), kX5_addUp_7L n s x1 = some s' → BlkV l yX5_addUp wsX5_addUp ({ frames := 1, cells := 0, slots := 0, locals := 22 }) cX5_addUp 3 none (dC, dI) (tysA cB cI cJ cZ cS) as 7 (wK cB cI cJ cZ cS a s) [(0, .ref (a 15)), (1, .int x1)] [] (fun u => u = (wK cB cI cJ cZ cS a s')) := by
  intro n
  induction n with
  | zero => intro s x1 hB; exact none_ne hB
  | succ n ih => intro s x1 hB; exact bkX5_addUp_7 ih _ _ hB
set_option maxHeartbeats 4000000 in
set_option maxRecDepth 100000 in
theorem bkX5_addUp {l : Launch} {dC : Nat → ClassId} {dI : Nat → Nat → Nat} {cB cI cJ cZ cS : ClassId} {a : Nat → Nat} {as : List Value} {s' : KS} (s : KS) (hB : kX5_addUp s = some s') : BlkV l yX5_addUp wsX5_addUp ({ frames := 1, cells := 0, slots := 0, locals := 22 }) cX5_addUp 3 none (dC, dI) (tysA cB cI cJ cZ cS) as 0 (wK cB cI cJ cZ cS a s) [(0, .ref (a 15))] [] (fun u => u = (wK cB cI cJ cZ cS a s')) := by
  intro p e s0 m below meth c A E H locs ls hP hD hS hl
  obtain ⟨C, hr, hlocks, hA, hK, hN⟩ := id E
  obtain ⟨hx, hb, hml, hown, hts⟩ := id C
  unfold kX5_addUp at hB
  refine lv_aload_n hx hb dX5_addUp_0 rfl (lv_at hl 0 rfl) ?_
  refine lv_iconst (v := 1) hx hb dX5_addUp_1 (by decide) ?_
  obtain ⟨s1, hs2, hB⟩ := letS_inv hB
  refine q_put (ty := .int) (w2 := (wK cB cI cJ cZ cS a s1)) tyX5 tyX5_ok nmX5 C inX5_addUp_X5 hK hP hD hS 15 rfl rfl 8 (by decide) rfl LX5_addUp_44 rfl (by decide +kernel) (rfl) rfl (Nat.le_of_ble_eq_true rfl) dX5_addUp_2 (by subst hs2; rfl) (fun H locs hP hD hS => ?_)
  refine lv_iconst (v := 0) hx hb dX5_addUp_5 (by decide) ?_
  refine lv_istore_n (lv' := [(1, .int 0), (0, .ref (a 15))]) hx hb dX5_addUp_6 rfl hl (by decide) rfl (fun ls hl => ?_)
  exact bkX5_addUp_7L fu _ _ hB p e s0 m below meth c A E H locs ls hP hD hS (lv_sub hl [1, 0] rfl)
theorem ckX5_addUp {l : Launch} {dC : Nat → ClassId} {dI : Nat → Nat → Nat} {cB cI cJ cZ cS : ClassId} {a : Nat → Nat} {s' : KS} {s : KS} (hB : kX5_addUp s = some s') : CV l yX5_addUp wsX5_addUp ({ frames := 1, cells := 0, slots := 0, locals := 22 }) (dC, dI) (tysA cB cI cJ cZ cS) (wK cB cI cJ cZ cS a s) [.ref (a 15)] (fun u => u = (wK cB cI cJ cZ cS a s')) :=
  CV_of (cc := cX5_addUp) (maxL := 3) (ret := none) (by decide) rfl (Nat.le_of_ble_eq_true rfl) (bkX5_addUp _ hB)
theorem LX6_startOver_15 : Cond.fieldLink RX6 15 "GuessFerry$Standing" "buoys" "[I" ∈ wsX6_startOver := by decide +kernel
theorem LX6_startOver_18 : Cond.fieldLink RX6 18 "GuessFerry$Standing" "shifted" "[I" ∈ wsX6_startOver := by decide +kernel
theorem LX6_startOver_21 : Cond.fieldLink RX6 21 "GuessFerry$Standing" "status" "[I" ∈ wsX6_startOver := by decide +kernel
theorem LX6_startOver_24 : Cond.fieldLink RX6 24 "GuessFerry$Standing" "goes" "[I" ∈ wsX6_startOver := by decide +kernel
theorem LX6_startOver_33 : Cond.fieldLink RX6 33 "GuessFerry$Standing" "year" "I" ∈ wsX6_startOver := by decide +kernel
theorem LX6_startOver_37 : Cond.fieldLink RX6 37 "GuessFerry$Standing" "paid" "I" ∈ wsX6_startOver := by decide +kernel
theorem LX6_startOver_9 : Cond.fieldLink RX6 9 "GuessFerry$Standing" "found" "[I" ∈ wsX6_startOver := by decide +kernel
theorem inX6_startOver_X6 : ∀ w ∈ u_ws RX6 TX6 7, w ∈ wsX6_startOver := by decide +kernel
set_option maxHeartbeats 4000000 in
set_option maxRecDepth 100000 in
theorem bkX6_startOver {l : Launch} {dC : Nat → ClassId} {dI : Nat → Nat → Nat} {cB cI cJ cZ cS : ClassId} {b : Nat → Nat} {as : List Value} {s' : SD} (s : SD) (hB : kX6_startOver s = some s') : BlkV l yX6_startOver wsX6_startOver ({ frames := 1, cells := 0, slots := 0, locals := 23 }) cX6_startOver 1 none (dC, dI) (tysA cB cI cJ cZ cS) as 0 (wD cI b s) [(0, .ref (b 0))] [] (fun u => u = (wD cI b s')) := by
  intro p e s0 m below meth c A E H locs ls hP hD hS hl
  obtain ⟨C, hr, hlocks, hA, hK, hN⟩ := id E
  obtain ⟨hx, hb, hml, hown, hts⟩ := id C
  unfold kX6_startOver at hB
  refine lv_aload_n hx hb dX6_startOver_0 rfl (lv_at hl 0 rfl) ?_
  refine q_get (v := .ref (b 1)) C inX6_startOver_X6 hK hP 0 rfl rfl 0 (by decide) rfl LX6_startOver_9 rfl dX6_startOver_1 ?_
  refine lv_iconst (v := (-1)) hx hb dX6_startOver_4 (by decide) ?_
  obtain ⟨s1, hc, hB⟩ := bindP_inv hB
  refine q_gov (wr := (((wD cI b s)).eraseIdx 1)) (va_runS (As := [.ref (b 1), .int (-1)]) (rest := []) C (ckJ7_fill_53178_5 hc _) (va_cwS 2 hts gX6_startOver_J7_fill_53178 rfl rfl rfl (by decide +kernel) ⟨Nat.le_of_ble_eq_true rfl, Nat.le_of_ble_eq_true rfl⟩) (q_pre hN hK hP hD [1] rfl (by decide)) rfl rfl hl.1 rfl (lv_room (Nat.le_of_ble_eq_true rfl)) dX6_startOver_5 ⟨Nat.le_of_ble_eq_true rfl, Nat.le_of_ble_eq_true rfl⟩) hP hD hS hA [1] [0, 2, 3, 4, 5] rfl rfl (by decide) (by decide) (fun w1 H locs hw hP hD hS => ?_)
  subst hw
  obtain ⟨s2, hs3, hB⟩ := letS_inv hB
  have hP : va_P (dC, dI) vwCl (wD cI b s2) H := by subst hs3; exact hP.sub [0, 5, 1, 2, 3, 4] rfl
  have hD : va_D A (wD cI b s2) := by subst hs3; exact hD.sub [0, 5, 1, 2, 3, 4] (by decide) rfl
  refine lv_aload_n hx hb dX6_startOver_8 rfl (lv_at hl 0 rfl) ?_
  refine q_get (v := .ref (b 2)) C inX6_startOver_X6 hK hP 0 rfl rfl 1 (by decide) rfl LX6_startOver_15 rfl dX6_startOver_9 ?_
  refine lv_iconst (v := 0) hx hb dX6_startOver_12 (by decide) ?_
  obtain ⟨s4, hc, hB⟩ := bindP_inv hB
  refine q_gov (wr := (((wD cI b s2)).eraseIdx 2)) (va_runS (As := [.ref (b 2), .int 0]) (rest := []) C (ckJ7_fill_53178_5 hc _) (va_cwS 2 hts gX6_startOver_J7_fill_53178 rfl rfl rfl (by decide +kernel) ⟨Nat.le_of_ble_eq_true rfl, Nat.le_of_ble_eq_true rfl⟩) (q_pre hN hK hP hD [2] rfl (by decide)) rfl rfl hl.1 rfl (lv_room (Nat.le_of_ble_eq_true rfl)) dX6_startOver_13 ⟨Nat.le_of_ble_eq_true rfl, Nat.le_of_ble_eq_true rfl⟩) hP hD hS hA [2] [0, 1, 3, 4, 5] rfl rfl (by decide) (by decide) (fun w1 H locs hw hP hD hS => ?_)
  subst hw
  obtain ⟨s5, hs6, hB⟩ := letS_inv hB
  have hP : va_P (dC, dI) vwCl (wD cI b s5) H := by subst hs6; exact hP.sub [0, 1, 5, 2, 3, 4] rfl
  have hD : va_D A (wD cI b s5) := by subst hs6; exact hD.sub [0, 1, 5, 2, 3, 4] (by decide) rfl
  refine lv_aload_n hx hb dX6_startOver_16 rfl (lv_at hl 0 rfl) ?_
  refine q_get (v := .ref (b 3)) C inX6_startOver_X6 hK hP 0 rfl rfl 2 (by decide) rfl LX6_startOver_18 rfl dX6_startOver_17 ?_
  refine lv_iconst (v := 0) hx hb dX6_startOver_20 (by decide) ?_
  obtain ⟨s7, hc, hB⟩ := bindP_inv hB
  refine q_gov (wr := (((wD cI b s5)).eraseIdx 3)) (va_runS (As := [.ref (b 3), .int 0]) (rest := []) C (ckJ7_fill_53178_5 hc _) (va_cwS 2 hts gX6_startOver_J7_fill_53178 rfl rfl rfl (by decide +kernel) ⟨Nat.le_of_ble_eq_true rfl, Nat.le_of_ble_eq_true rfl⟩) (q_pre hN hK hP hD [3] rfl (by decide)) rfl rfl hl.1 rfl (lv_room (Nat.le_of_ble_eq_true rfl)) dX6_startOver_21 ⟨Nat.le_of_ble_eq_true rfl, Nat.le_of_ble_eq_true rfl⟩) hP hD hS hA [3] [0, 1, 2, 4, 5] rfl rfl (by decide) (by decide) (fun w1 H locs hw hP hD hS => ?_)
  subst hw
  obtain ⟨s8, hs9, hB⟩ := letS_inv hB
  have hP : va_P (dC, dI) vwCl (wD cI b s8) H := by subst hs9; exact hP.sub [0, 1, 2, 5, 3, 4] rfl
  have hD : va_D A (wD cI b s8) := by subst hs9; exact hD.sub [0, 1, 2, 5, 3, 4] (by decide) rfl
  refine lv_aload_n hx hb dX6_startOver_24 rfl (lv_at hl 0 rfl) ?_
  refine q_get (v := .ref (b 4)) C inX6_startOver_X6 hK hP 0 rfl rfl 3 (by decide) rfl LX6_startOver_21 rfl dX6_startOver_25 ?_
  refine lv_iconst (v := 0) hx hb dX6_startOver_28 (by decide) ?_
  obtain ⟨s10, hc, hB⟩ := bindP_inv hB
  refine q_gov (wr := (((wD cI b s8)).eraseIdx 4)) (va_runS (As := [.ref (b 4), .int 0]) (rest := []) C (ckJ7_fill_53178_6 hc _) (va_cwS 2 hts gX6_startOver_J7_fill_53178 rfl rfl rfl (by decide +kernel) ⟨Nat.le_of_ble_eq_true rfl, Nat.le_of_ble_eq_true rfl⟩) (q_pre hN hK hP hD [4] rfl (by decide)) rfl rfl hl.1 rfl (lv_room (Nat.le_of_ble_eq_true rfl)) dX6_startOver_29 ⟨Nat.le_of_ble_eq_true rfl, Nat.le_of_ble_eq_true rfl⟩) hP hD hS hA [4] [0, 1, 2, 3, 5] rfl rfl (by decide) (by decide) (fun w1 H locs hw hP hD hS => ?_)
  subst hw
  obtain ⟨s11, hs12, hB⟩ := letS_inv hB
  have hP : va_P (dC, dI) vwCl (wD cI b s11) H := by subst hs12; exact hP.sub [0, 1, 2, 3, 5, 4] rfl
  have hD : va_D A (wD cI b s11) := by subst hs12; exact hD.sub [0, 1, 2, 3, 5, 4] (by decide) rfl
  refine lv_aload_n hx hb dX6_startOver_32 rfl (lv_at hl 0 rfl) ?_
  refine q_get (v := .ref (b 5)) C inX6_startOver_X6 hK hP 0 rfl rfl 4 (by decide) rfl LX6_startOver_24 rfl dX6_startOver_33 ?_
  refine lv_iconst (v := 0) hx hb dX6_startOver_36 (by decide) ?_
  obtain ⟨s13, hc, hB⟩ := bindP_inv hB
  refine q_gov (wr := (((wD cI b s11)).eraseIdx 5)) (va_runS (As := [.ref (b 5), .int 0]) (rest := []) C (ckJ7_fill_53178_6 hc _) (va_cwS 2 hts gX6_startOver_J7_fill_53178 rfl rfl rfl (by decide +kernel) ⟨Nat.le_of_ble_eq_true rfl, Nat.le_of_ble_eq_true rfl⟩) (q_pre hN hK hP hD [5] rfl (by decide)) rfl rfl hl.1 rfl (lv_room (Nat.le_of_ble_eq_true rfl)) dX6_startOver_37 ⟨Nat.le_of_ble_eq_true rfl, Nat.le_of_ble_eq_true rfl⟩) hP hD hS hA [5] [0, 1, 2, 3, 4] rfl rfl (by decide) (by decide) (fun w1 H locs hw hP hD hS => ?_)
  subst hw
  obtain ⟨s14, hs15, hB⟩ := letS_inv hB
  have hP : va_P (dC, dI) vwCl (wD cI b s14) H := by subst hs15; exact hP.sub [0, 1, 2, 3, 4, 5] rfl
  have hD : va_D A (wD cI b s14) := by subst hs15; exact hD.sub [0, 1, 2, 3, 4, 5] (by decide) rfl
  refine lv_aload_n hx hb dX6_startOver_40 rfl (lv_at hl 0 rfl) ?_
  refine lv_iconst (v := 0) hx hb dX6_startOver_41 (by decide) ?_
  obtain ⟨s16, hs17, hB⟩ := letS_inv hB
  refine q_put (ty := .int) (w2 := (wD cI b s16)) tyX6 tyX6_ok nmX6 C inX6_startOver_X6 hK hP hD hS 0 rfl rfl 5 (by decide) rfl LX6_startOver_33 rfl (by decide +kernel) (rfl) rfl (Nat.le_of_ble_eq_true rfl) dX6_startOver_42 (by subst hs17; rfl) (fun H locs hP hD hS => ?_)
  refine lv_aload_n hx hb dX6_startOver_45 rfl (lv_at hl 0 rfl) ?_
  refine lv_iconst (v := 0) hx hb dX6_startOver_46 (by decide) ?_
  obtain ⟨s18, hs19, hB⟩ := letS_inv hB
  refine q_put (ty := .int) (w2 := (wD cI b s18)) tyX6 tyX6_ok nmX6 C inX6_startOver_X6 hK hP hD hS 0 rfl rfl 6 (by decide) rfl LX6_startOver_37 rfl (by decide +kernel) (rfl) rfl (Nat.le_of_ble_eq_true rfl) dX6_startOver_47 (by subst hs19; rfl) (fun H locs hP hD hS => ?_)
  exact q_vret C hr hlocks hK hP hD hS (Nat.le_of_ble_eq_true rfl) (Nat.le_of_ble_eq_true rfl) dX6_startOver_50 (by cases hB; rfl)
theorem ckX6_startOver {l : Launch} {dC : Nat → ClassId} {dI : Nat → Nat → Nat} {cB cI cJ cZ cS : ClassId} {b : Nat → Nat} {s' : SD} {s : SD} (hB : kX6_startOver s = some s') : CV l yX6_startOver wsX6_startOver ({ frames := 1, cells := 0, slots := 0, locals := 23 }) (dC, dI) (tysA cB cI cJ cZ cS) (wD cI b s) [.ref (b 0)] (fun u => u = (wD cI b s')) :=
  CV_of (cc := cX6_startOver) (maxL := 1) (ret := none) (by decide) rfl (Nat.le_of_ble_eq_true rfl) (bkX6_startOver _ hB)
theorem LX8_beliedBy_15 : Cond.fieldLink RX8 15 "GuessFerry$Tellers" "toldThings" "[I" ∈ wsX8_beliedBy := by decide +kernel
theorem LX8_beliedBy_9 : Cond.fieldLink RX8 9 "GuessFerry$Tellers" "toldWaves" "[I" ∈ wsX8_beliedBy := by decide +kernel
theorem LX8_beliedBy_I_X10 : Cond.initialized RX10 ∈ wsX8_beliedBy := by decide +kernel
theorem LX8_beliedBy_S_X10_has : Cond.static yX10_has ∈ wsX8_beliedBy := by decide +kernel
theorem inX8_beliedBy_X8 : ∀ w ∈ u_ws RX8 TX8 8, w ∈ wsX8_beliedBy := by decide +kernel
set_option maxHeartbeats 4000000 in
set_option maxRecDepth 100000 in
theorem bkX8_beliedBy_40 {l : Launch} {dC : Nat → ClassId} {dI : Nat → Nat → Nat} {cB cI cJ cZ cS : ClassId} {a : Nat → Nat} {as : List Value} {r : Int32} {s' : KS} {k6 : KS → Int32 → Int32 → Int32 → Int32 → Int32 → Option (Int32 × KS)} (hk6 : ∀ (s : KS) (x1 : Int32) (x2 : Int32) (x3 : Int32) (x4 : Int32) (x5 : Int32), k6 s x1 x2 x3 x4 x5 = some (r, s') → BlkI l yX8_beliedBy wsX8_beliedBy ({ frames := 1, cells := 0, slots := 0, locals := 21 }) cX8_beliedBy 6 (some .int) (dC, dI) (tysA cB cI cJ cZ cS) as 6 (wK cB cI cJ cZ cS a s) [(0, .ref (a 41)), (1, .int x1), (2, .int x2), (3, .int x3), (4, .int x4), (5, .int x5)] [] (fun x u => x = r ∧ u = (wK cB cI cJ cZ cS a s'))) (s : KS) (x1 : Int32) (x2 : Int32) (x3 : Int32) (x4 : Int32) (x5 : Int32) (hB : kX8_beliedBy_40 k6 s x1 x2 x3 x4 x5 = some (r, s')) : BlkI l yX8_beliedBy wsX8_beliedBy ({ frames := 1, cells := 0, slots := 0, locals := 21 }) cX8_beliedBy 6 (some .int) (dC, dI) (tysA cB cI cJ cZ cS) as 40 (wK cB cI cJ cZ cS a s) [(0, .ref (a 41)), (1, .int x1), (2, .int x2), (3, .int x3), (4, .int x4), (5, .int x5)] [] (fun x u => x = r ∧ u = (wK cB cI cJ cZ cS a s')) := by
  intro p e s0 m below meth c A E H locs ls hP hD hS hl
  obtain ⟨C, hr, hlocks, hA, hK, hN⟩ := id E
  obtain ⟨hx, hb, hml, hown, hts⟩ := id C
  unfold kX8_beliedBy_40 at hB
  refine lv_iinc (v := (x5 + 1)) (lv' := [(5, .int (x5 + 1)), (0, .ref (a 41)), (1, .int x1), (2, .int x2), (3, .int x3), (4, .int x4)]) hx hb dX8_beliedBy_40 hl (k := 5) rfl (rfl) (by decide) rfl (fun ls hl => ?_)
  refine lv_goto (tgt := 6) hx hb dX8_beliedBy_43 (by decide) ?_
  exact hk6 _ _ _ _ _ _ hB p e s0 m below meth c A E H locs ls hP hD hS (lv_sub hl [1, 2, 3, 4, 5, 0] rfl)
set_option maxHeartbeats 4000000 in
set_option maxRecDepth 100000 in
theorem bkX8_beliedBy_6 {l : Launch} {dC : Nat → ClassId} {dI : Nat → Nat → Nat} {cB cI cJ cZ cS : ClassId} {a : Nat → Nat} {as : List Value} {r : Int32} {s' : KS} {k6 : KS → Int32 → Int32 → Int32 → Int32 → Int32 → Option (Int32 × KS)} (hk6 : ∀ (s : KS) (x1 : Int32) (x2 : Int32) (x3 : Int32) (x4 : Int32) (x5 : Int32), k6 s x1 x2 x3 x4 x5 = some (r, s') → BlkI l yX8_beliedBy wsX8_beliedBy ({ frames := 1, cells := 0, slots := 0, locals := 21 }) cX8_beliedBy 6 (some .int) (dC, dI) (tysA cB cI cJ cZ cS) as 6 (wK cB cI cJ cZ cS a s) [(0, .ref (a 41)), (1, .int x1), (2, .int x2), (3, .int x3), (4, .int x4), (5, .int x5)] [] (fun x u => x = r ∧ u = (wK cB cI cJ cZ cS a s'))) (s : KS) (x1 : Int32) (x2 : Int32) (x3 : Int32) (x4 : Int32) (x5 : Int32) (hB : kX8_beliedBy_6 k6 s x1 x2 x3 x4 x5 = some (r, s')) : BlkI l yX8_beliedBy wsX8_beliedBy ({ frames := 1, cells := 0, slots := 0, locals := 21 }) cX8_beliedBy 6 (some .int) (dC, dI) (tysA cB cI cJ cZ cS) as 6 (wK cB cI cJ cZ cS a s) [(0, .ref (a 41)), (1, .int x1), (2, .int x2), (3, .int x3), (4, .int x4), (5, .int x5)] [] (fun x u => x = r ∧ u = (wK cB cI cJ cZ cS a s')) := by
  intro p e s0 m below meth c A E H locs ls hP hD hS hl
  obtain ⟨C, hr, hlocks, hA, hK, hN⟩ := id E
  obtain ⟨hx, hb, hml, hown, hts⟩ := id C
  unfold kX8_beliedBy_6 at hB
  refine lv_iload hx hb dX8_beliedBy_6 (lv_at hl 5 rfl) ?_
  refine lv_iload_n hx hb dX8_beliedBy_8 rfl (lv_at hl 3 rfl) ?_
  refine lv_icmp_ge (tgt := 46) hx hb dX8_beliedBy_9 (by decide) (fun c1 => ?_) (fun c1 => ?_)
  · have hB := if_p hB c1
    refine lv_iload hx hb dX8_beliedBy_46 (lv_at hl 4 rfl) ?_
    exact q_iret C hr hlocks hK hP hD hS (Nat.le_of_ble_eq_true rfl) (Nat.le_of_ble_eq_true rfl) dX8_beliedBy_48 (by cases hB; exact ⟨rfl, rfl⟩)
  · have hB := if_n hB c1
    refine lv_aload_n hx hb dX8_beliedBy_12 rfl (lv_at hl 0 rfl) ?_
    refine q_get (v := .ref (a 42)) C inX8_beliedBy_X8 hK hP 41 rfl rfl 2 (by decide) rfl LX8_beliedBy_9 rfl dX8_beliedBy_13 ?_
    refine lv_iload hx hb dX8_beliedBy_16 (lv_at hl 5 rfl) ?_
    obtain ⟨g2, hB⟩ := guard_inv hB
    refine q_iald (x := ((s.f 42) (Int32.toNatClampNeg x5))) C hK hP 42 1 rfl rfl (vpb_in g2) dX8_beliedBy_18 rfl ?_
    refine lv_iload_n hx hb dX8_beliedBy_19 rfl (lv_at hl 1 rfl) ?_
    refine lv_icmp_ne (tgt := 40) hx hb dX8_beliedBy_20 (by decide) (fun c3 => ?_) (fun c3 => ?_)
    · have hB := if_n hB c3
      exact bkX8_beliedBy_40 (hk6) _ _ _ _ _ _ hB p e s0 m below meth c A E H locs ls hP hD hS (lv_sub hl [0, 1, 2, 3, 4, 5] rfl)
    · have hB := if_p hB c3
      refine lv_aload_n hx hb dX8_beliedBy_23 rfl (lv_at hl 0 rfl) ?_
      refine q_get (v := .ref (a 43)) C inX8_beliedBy_X8 hK hP 41 rfl rfl 3 (by decide) rfl LX8_beliedBy_15 rfl dX8_beliedBy_24 ?_
      refine lv_iload hx hb dX8_beliedBy_27 (lv_at hl 5 rfl) ?_
      obtain ⟨g4, hB⟩ := guard_inv hB
      refine q_iald (x := ((s.f 43) (Int32.toNatClampNeg x5))) C hK hP 43 1 rfl rfl (vpb_in g4) dX8_beliedBy_29 rfl ?_
      refine lv_iload_n hx hb dX8_beliedBy_30 rfl (lv_at hl 2 rfl) ?_
      obtain ⟨q_, hc, hB⟩ := bindP_inv hB
      refine q_goi0 (va_runSN (As := [.int ((s.f 43) (Int32.toNatClampNeg x5)), .int x2]) (rest := []) C (ckX10_has hc _) ⟨va_cnB 2 hts gX8_beliedBy_X10_has_n50 rfl rfl rfl (hN _ nwM_X8_50 rfl) (hts _ LX8_beliedBy_I_X10) (by decide +kernel) ⟨Nat.le_of_ble_eq_true rfl, Nat.le_of_ble_eq_true rfl⟩, hts _ LX8_beliedBy_S_X10_has, trivial⟩ (q_pre0 hN hK) rfl rfl hl.1 rfl (lv_room (Nat.le_of_ble_eq_true rfl)) dX8_beliedBy_31 ⟨Nat.le_of_ble_eq_true rfl, Nat.le_of_ble_eq_true rfl⟩) hP hD hS hA (fun r5 w1 H locs hw hP hS => ?_)
      subst hw
      refine lv_if_ne (tgt := 40) hx hb dX8_beliedBy_34 (by decide) (fun c6 => ?_) (fun c6 => ?_)
      · have hB := if_n hB c6
        exact bkX8_beliedBy_40 (hk6) _ _ _ _ _ _ hB p e s0 m below meth c A E H locs ls hP hD hS (lv_sub hl [0, 1, 2, 3, 4, 5] rfl)
      · have hB := if_p hB c6
        refine lv_iinc (v := (x4 + 1)) (lv' := [(4, .int (x4 + 1)), (0, .ref (a 41)), (1, .int x1), (2, .int x2), (3, .int x3), (5, .int x5)]) hx hb dX8_beliedBy_37 hl (k := 4) rfl (rfl) (by decide) rfl (fun ls hl => ?_)
        exact bkX8_beliedBy_40 (hk6) _ _ _ _ _ _ hB p e s0 m below meth c A E H locs ls hP hD hS (lv_sub hl [1, 2, 3, 4, 0, 5] rfl)
theorem bkX8_beliedBy_6L {l : Launch} {dC : Nat → ClassId} {dI : Nat → Nat → Nat} {cB cI cJ cZ cS : ClassId} {a : Nat → Nat} {as : List Value} {r : Int32} {s' : KS} : ∀ (n : Nat) (s : KS) (x1 : Int32) (x2 : Int32) (x3 : Int32) (x4 : Int32) (x5 : Int32), kX8_beliedBy_6L n s x1 x2 x3 x4 x5 = some (r, s') → BlkI l yX8_beliedBy wsX8_beliedBy ({ frames := 1, cells := 0, slots := 0, locals := 21 }) cX8_beliedBy 6 (some .int) (dC, dI) (tysA cB cI cJ cZ cS) as 6 (wK cB cI cJ cZ cS a s) [(0, .ref (a 41)), (1, .int x1), (2, .int x2), (3, .int x3), (4, .int x4), (5, .int x5)] [] (fun x u => x = r ∧ u = (wK cB cI cJ cZ cS a s')) := by
  intro n
  induction n with
  | zero => intro s x1 x2 x3 x4 x5 hB; exact none_ne hB
  | succ n ih => intro s x1 x2 x3 x4 x5 hB; exact bkX8_beliedBy_6 ih _ _ _ _ _ _ hB
set_option maxHeartbeats 4000000 in
set_option maxRecDepth 100000 in
theorem bkX8_beliedBy {l : Launch} {dC : Nat → ClassId} {dI : Nat → Nat → Nat} {cB cI cJ cZ cS : ClassId} {a : Nat → Nat} {as : List Value} {r : Int32} {s' : KS} (s : KS) (x1 : Int32) (x2 : Int32) (x3 : Int32) (hB : kX8_beliedBy s x1 x2 x3 = some (r, s')) : BlkI l yX8_beliedBy wsX8_beliedBy ({ frames := 1, cells := 0, slots := 0, locals := 21 }) cX8_beliedBy 6 (some .int) (dC, dI) (tysA cB cI cJ cZ cS) as 0 (wK cB cI cJ cZ cS a s) [(0, .ref (a 41)), (1, .int x1), (2, .int x2), (3, .int x3)] [] (fun x u => x = r ∧ u = (wK cB cI cJ cZ cS a s')) := by
  intro p e s0 m below meth c A E H locs ls hP hD hS hl
  obtain ⟨C, hr, hlocks, hA, hK, hN⟩ := id E
  obtain ⟨hx, hb, hml, hown, hts⟩ := id C
  unfold kX8_beliedBy at hB
  refine lv_iconst (v := 0) hx hb dX8_beliedBy_0 (by decide) ?_
  refine lv_istore (lv' := [(4, .int 0), (0, .ref (a 41)), (1, .int x1), (2, .int x2), (3, .int x3)]) hx hb dX8_beliedBy_1 hl (by decide) rfl (fun ls hl => ?_)
  refine lv_iconst (v := 0) hx hb dX8_beliedBy_3 (by decide) ?_
  refine lv_istore (lv' := [(5, .int 0), (4, .int 0), (0, .ref (a 41)), (1, .int x1), (2, .int x2), (3, .int x3)]) hx hb dX8_beliedBy_4 hl (by decide) rfl (fun ls hl => ?_)
  exact bkX8_beliedBy_6L fu _ _ _ _ _ _ hB p e s0 m below meth c A E H locs ls hP hD hS (lv_sub hl [2, 3, 4, 5, 1, 0] rfl)
theorem ckX8_beliedBy {l : Launch} {dC : Nat → ClassId} {dI : Nat → Nat → Nat} {cB cI cJ cZ cS : ClassId} {a : Nat → Nat} {r : Int32} {s' : KS} {s : KS} {x1 : Int32} {x2 : Int32} {x3 : Int32} (hB : kX8_beliedBy s x1 x2 x3 = some (r, s')) : CI l yX8_beliedBy wsX8_beliedBy ({ frames := 1, cells := 0, slots := 0, locals := 21 }) (dC, dI) (tysA cB cI cJ cZ cS) (wK cB cI cJ cZ cS a s) [.ref (a 41), .int x1, .int x2, .int x3] (fun x u => x = r ∧ u = (wK cB cI cJ cZ cS a s')) :=
  CI_of (cc := cX8_beliedBy) (maxL := 6) (ret := (some .int)) (by decide) rfl (Nat.le_of_ble_eq_true rfl) (bkX8_beliedBy _ _ _ _ hB)
theorem LX8_sortByLies_24 : Cond.fieldLink RX8 24 "GuessFerry$Tellers" "byLies" "[I" ∈ wsX8_sortByLies := by decide +kernel
theorem LX8_sortByLies_27 : Cond.fieldLink RX8 27 "GuessFerry$Tellers" "sound" "LGuessFerry$Sound;" ∈ wsX8_sortByLies := by decide +kernel
theorem inX8_sortByLies_X5 : ∀ w ∈ u_ws RX5 TX5 10, w ∈ wsX8_sortByLies := by decide +kernel
theorem inX8_sortByLies_X8 : ∀ w ∈ u_ws RX8 TX8 8, w ∈ wsX8_sortByLies := by decide +kernel
set_option maxHeartbeats 4000000 in
set_option maxRecDepth 100000 in
theorem bkX8_sortByLies_62 {l : Launch} {dC : Nat → ClassId} {dI : Nat → Nat → Nat} {cB cI cJ cZ cS : ClassId} {a : Nat → Nat} {as : List Value} {s' : KS} {k17 : KS → Int32 → Int32 → Int32 → Option KS} (hk17 : ∀ (s : KS) (x1 : Int32) (x2 : Int32) (x3 : Int32), k17 s x1 x2 x3 = some s' → BlkV l yX8_sortByLies wsX8_sortByLies ({ frames := 1, cells := 0, slots := 0, locals := 26 }) cX8_sortByLies 5 none (dC, dI) (tysA cB cI cJ cZ cS) as 17 (wK cB cI cJ cZ cS a s) [(0, .ref (a 41)), (1, .int x1), (2, .int x2), (3, .int x3)] [] (fun u => u = (wK cB cI cJ cZ cS a s'))) (s : KS) (x1 : Int32) (x2 : Int32) (x3 : Int32) (hB : kX8_sortByLies_62 k17 s x1 x2 x3 = some s') : BlkV l yX8_sortByLies wsX8_sortByLies ({ frames := 1, cells := 0, slots := 0, locals := 26 }) cX8_sortByLies 5 none (dC, dI) (tysA cB cI cJ cZ cS) as 62 (wK cB cI cJ cZ cS a s) [(0, .ref (a 41)), (1, .int x1), (2, .int x2), (3, .int x3)] [] (fun u => u = (wK cB cI cJ cZ cS a s')) := by
  intro p e s0 m below meth c A E H locs ls hP hD hS hl
  obtain ⟨C, hr, hlocks, hA, hK, hN⟩ := id E
  obtain ⟨hx, hb, hml, hown, hts⟩ := id C
  unfold kX8_sortByLies_62 at hB
  refine lv_iinc (v := (x3 + 1)) (lv' := [(3, .int (x3 + 1)), (0, .ref (a 41)), (1, .int x1), (2, .int x2)]) hx hb dX8_sortByLies_62 hl (k := 3) rfl (rfl) (by decide) rfl (fun ls hl => ?_)
  refine lv_goto (tgt := 17) hx hb dX8_sortByLies_65 (by decide) ?_
  exact hk17 _ _ _ _ hB p e s0 m below meth c A E H locs ls hP hD hS (lv_sub hl [1, 2, 3, 0] rfl)
set_option maxHeartbeats 4000000 in
set_option maxRecDepth 100000 in
theorem bkX8_sortByLies_36 {l : Launch} {dC : Nat → ClassId} {dI : Nat → Nat → Nat} {cB cI cJ cZ cS : ClassId} {a : Nat → Nat} {as : List Value} {s' : KS} {k17 : KS → Int32 → Int32 → Int32 → Option KS} {k36 : KS → Int32 → Int32 → Int32 → Int32 → Option KS} (hk17 : ∀ (s : KS) (x1 : Int32) (x2 : Int32) (x3 : Int32), k17 s x1 x2 x3 = some s' → BlkV l yX8_sortByLies wsX8_sortByLies ({ frames := 1, cells := 0, slots := 0, locals := 26 }) cX8_sortByLies 5 none (dC, dI) (tysA cB cI cJ cZ cS) as 17 (wK cB cI cJ cZ cS a s) [(0, .ref (a 41)), (1, .int x1), (2, .int x2), (3, .int x3)] [] (fun u => u = (wK cB cI cJ cZ cS a s'))) (hk36 : ∀ (s : KS) (x1 : Int32) (x2 : Int32) (x3 : Int32) (x4 : Int32), k36 s x1 x2 x3 x4 = some s' → BlkV l yX8_sortByLies wsX8_sortByLies ({ frames := 1, cells := 0, slots := 0, locals := 26 }) cX8_sortByLies 5 none (dC, dI) (tysA cB cI cJ cZ cS) as 36 (wK cB cI cJ cZ cS a s) [(0, .ref (a 41)), (1, .int x1), (2, .int x2), (3, .int x3), (4, .int x4)] [] (fun u => u = (wK cB cI cJ cZ cS a s'))) (s : KS) (x1 : Int32) (x2 : Int32) (x3 : Int32) (x4 : Int32) (hB : kX8_sortByLies_36 k17 k36 s x1 x2 x3 x4 = some s') : BlkV l yX8_sortByLies wsX8_sortByLies ({ frames := 1, cells := 0, slots := 0, locals := 26 }) cX8_sortByLies 5 none (dC, dI) (tysA cB cI cJ cZ cS) as 36 (wK cB cI cJ cZ cS a s) [(0, .ref (a 41)), (1, .int x1), (2, .int x2), (3, .int x3), (4, .int x4)] [] (fun u => u = (wK cB cI cJ cZ cS a s')) := by
  intro p e s0 m below meth c A E H locs ls hP hD hS hl
  obtain ⟨C, hr, hlocks, hA, hK, hN⟩ := id E
  obtain ⟨hx, hb, hml, hown, hts⟩ := id C
  unfold kX8_sortByLies_36 at hB
  refine lv_iload hx hb dX8_sortByLies_36 (lv_at hl 4 rfl) ?_
  refine lv_if_lt (tgt := 62) hx hb dX8_sortByLies_38 (by decide) (fun c1 => ?_) (fun c1 => ?_)
  · have hB := if_p hB c1
    exact bkX8_sortByLies_62 (hk17) _ _ _ _ hB p e s0 m below meth c A E H locs ls hP hD hS (lv_sub hl [0, 1, 2, 3] rfl)
  · have hB := if_n hB c1
    refine lv_aload_n hx hb dX8_sortByLies_41 rfl (lv_at hl 0 rfl) ?_
    refine q_get (v := .ref (a 46)) C inX8_sortByLies_X8 hK hP 41 rfl rfl 6 (by decide) rfl LX8_sortByLies_24 rfl dX8_sortByLies_42 ?_
    refine lv_iload hx hb dX8_sortByLies_45 (lv_at hl 4 rfl) ?_
    refine lv_aload_n hx hb dX8_sortByLies_47 rfl (lv_at hl 0 rfl) ?_
    refine lv_iload_n hx hb dX8_sortByLies_48 rfl (lv_at hl 3 rfl) ?_
    refine lv_iload hx hb dX8_sortByLies_49 (lv_at hl 4 rfl) ?_
    refine lv_iload_n hx hb dX8_sortByLies_51 rfl (lv_at hl 2 rfl) ?_
    obtain ⟨q_, s2, hc, hB⟩ := bindI_inv hB
    refine q_goiF (va_runV (As := [.int x3, .int x4, .int x2]) (rest := [.int x4, .ref (a 46)]) C (ckX8_withWave hc _) (cwV 3 hts gX8_sortByLies_X8_withWave rfl rfl rfl (by decide +kernel) ⟨Nat.le_of_ble_eq_true rfl, Nat.le_of_ble_eq_true rfl⟩) (q_preV hK hP (ci := 8) (q0 := 41) rfl rfl rfl (q_preF hN hK hP hD)) rfl rfl hl.1 rfl (lv_room (Nat.le_of_ble_eq_true rfl)) dX8_sortByLies_52 ⟨Nat.le_of_ble_eq_true rfl, Nat.le_of_ble_eq_true rfl⟩) hD hS hA (fun r3 w1 H locs hw hP hD hS => ?_)
    obtain ⟨hq_, hw⟩ := hw; subst hw; subst hq_
    obtain ⟨g4, hB⟩ := guard_inv hB
    obtain ⟨s5, hs6, hB⟩ := letS_inv hB
    refine q_iast (f2 := (upd (s2.f 46) (Int32.toNatClampNeg x4) r3)) (w2 := (wK cB cI cJ cZ cS a s5)) C hK hP hD hS 46 1 rfl rfl (vpb_in g4) dX8_sortByLies_55 rfl (by subst hs6; rfl) (fun H locs hP hD hS => ?_)
    refine lv_iinc (v := (x4 + (-1))) (lv' := [(4, .int (x4 + (-1))), (0, .ref (a 41)), (1, .int x1), (2, .int x2), (3, .int x3)]) hx hb dX8_sortByLies_56 hl (k := 4) rfl (rfl) (by decide) rfl (fun ls hl => ?_)
    refine lv_goto (tgt := 36) hx hb dX8_sortByLies_59 (by decide) ?_
    exact hk36 _ _ _ _ _ hB p e s0 m below meth c A E H locs ls hP hD hS (lv_sub hl [1, 2, 3, 4, 0] rfl)
theorem bkX8_sortByLies_36L {l : Launch} {dC : Nat → ClassId} {dI : Nat → Nat → Nat} {cB cI cJ cZ cS : ClassId} {a : Nat → Nat} {as : List Value} {s' : KS} {k17 : KS → Int32 → Int32 → Int32 → Option KS} (hk17 : ∀ (s : KS) (x1 : Int32) (x2 : Int32) (x3 : Int32), k17 s x1 x2 x3 = some s' → BlkV l yX8_sortByLies wsX8_sortByLies ({ frames := 1, cells := 0, slots := 0, locals := 26 }) cX8_sortByLies 5 none (dC, dI) (tysA cB cI cJ cZ cS) as 17 (wK cB cI cJ cZ cS a s) [(0, .ref (a 41)), (1, .int x1), (2, .int x2), (3, .int x3)] [] (fun u => u = (wK cB cI cJ cZ cS a s'))) : ∀ (n : Nat) (s : KS) (x1 : Int32) (x2 : Int32) (x3 : Int32) (x4 : Int32), kX8_sortByLies_36L k17 n s x1 x2 x3 x4 = some s' → BlkV l yX8_sortByLies wsX8_sortByLies ({ frames := 1, cells := 0, slots := 0, locals := 26 }) cX8_sortByLies 5 none (dC, dI) (tysA cB cI cJ cZ cS) as 36 (wK cB cI cJ cZ cS a s) [(0, .ref (a 41)), (1, .int x1), (2, .int x2), (3, .int x3), (4, .int x4)] [] (fun u => u = (wK cB cI cJ cZ cS a s')) := by
  intro n
  induction n with
  | zero => intro s x1 x2 x3 x4 hB; exact none_ne hB
  | succ n ih => intro s x1 x2 x3 x4 hB; exact bkX8_sortByLies_36 hk17 ih _ _ _ _ _ hB
set_option maxHeartbeats 4000000 in
set_option maxRecDepth 100000 in
theorem bkX8_sortByLies_17 {l : Launch} {dC : Nat → ClassId} {dI : Nat → Nat → Nat} {cB cI cJ cZ cS : ClassId} {a : Nat → Nat} {as : List Value} {s' : KS} {k17 : KS → Int32 → Int32 → Int32 → Option KS} (hk17 : ∀ (s : KS) (x1 : Int32) (x2 : Int32) (x3 : Int32), k17 s x1 x2 x3 = some s' → BlkV l yX8_sortByLies wsX8_sortByLies ({ frames := 1, cells := 0, slots := 0, locals := 26 }) cX8_sortByLies 5 none (dC, dI) (tysA cB cI cJ cZ cS) as 17 (wK cB cI cJ cZ cS a s) [(0, .ref (a 41)), (1, .int x1), (2, .int x2), (3, .int x3)] [] (fun u => u = (wK cB cI cJ cZ cS a s'))) (s : KS) (x1 : Int32) (x2 : Int32) (x3 : Int32) (hB : kX8_sortByLies_17 k17 s x1 x2 x3 = some s') : BlkV l yX8_sortByLies wsX8_sortByLies ({ frames := 1, cells := 0, slots := 0, locals := 26 }) cX8_sortByLies 5 none (dC, dI) (tysA cB cI cJ cZ cS) as 17 (wK cB cI cJ cZ cS a s) [(0, .ref (a 41)), (1, .int x1), (2, .int x2), (3, .int x3)] [] (fun u => u = (wK cB cI cJ cZ cS a s')) := by
  intro p e s0 m below meth c A E H locs ls hP hD hS hl
  obtain ⟨C, hr, hlocks, hA, hK, hN⟩ := id E
  obtain ⟨hx, hb, hml, hown, hts⟩ := id C
  unfold kX8_sortByLies_17 at hB
  refine lv_iload_n hx hb dX8_sortByLies_17 rfl (lv_at hl 3 rfl) ?_
  refine lv_aload_n hx hb dX8_sortByLies_18 rfl (lv_at hl 0 rfl) ?_
  refine q_get (v := .ref (a 2)) C inX8_sortByLies_X8 hK hP 41 rfl rfl 0 (by decide) rfl LX8_sortByLies_27 rfl dX8_sortByLies_19 ?_
  refine q_getN (v := .int (s.v 1)) C hN inX8_sortByLies_X5 hK hP 2 rfl rfl 6 (by decide) rfl nwF_X8_39 rfl dX8_sortByLies_22 ?_
  refine lv_icmp_ge (tgt := 68) hx hb dX8_sortByLies_25 (by decide) (fun c1 => ?_) (fun c1 => ?_)
  · have hB := if_p hB c1
    exact q_vret C hr hlocks hK hP hD hS (Nat.le_of_ble_eq_true rfl) (Nat.le_of_ble_eq_true rfl) dX8_sortByLies_68 (by cases hB; rfl)
  · have hB := if_n hB c1
    refine lv_iload_n hx hb dX8_sortByLies_28 rfl (lv_at hl 3 rfl) ?_
    refine lv_iload_n hx hb dX8_sortByLies_29 rfl (lv_at hl 1 rfl) ?_
    refine lv_icmp_eq (tgt := 62) hx hb dX8_sortByLies_30 (by decide) (fun c2 => ?_) (fun c2 => ?_)
    · have hB := if_p hB c2
      exact bkX8_sortByLies_62 (hk17) _ _ _ _ hB p e s0 m below meth c A E H locs ls hP hD hS (lv_sub hl [0, 1, 2, 3] rfl)
    · have hB := if_n hB c2
      refine lv_iconst (v := 3) hx hb dX8_sortByLies_33 (by decide) ?_
      refine lv_istore (lv' := [(4, .int 3), (0, .ref (a 41)), (1, .int x1), (2, .int x2), (3, .int x3)]) hx hb dX8_sortByLies_34 hl (by decide) rfl (fun ls hl => ?_)
      exact bkX8_sortByLies_36L (hk17) fu _ _ _ _ _ hB p e s0 m below meth c A E H locs ls hP hD hS (lv_sub hl [1, 2, 3, 4, 0] rfl)
theorem bkX8_sortByLies_17L {l : Launch} {dC : Nat → ClassId} {dI : Nat → Nat → Nat} {cB cI cJ cZ cS : ClassId} {a : Nat → Nat} {as : List Value} {s' : KS} : ∀ (n : Nat) (s : KS) (x1 : Int32) (x2 : Int32) (x3 : Int32), kX8_sortByLies_17L n s x1 x2 x3 = some s' → BlkV l yX8_sortByLies wsX8_sortByLies ({ frames := 1, cells := 0, slots := 0, locals := 26 }) cX8_sortByLies 5 none (dC, dI) (tysA cB cI cJ cZ cS) as 17 (wK cB cI cJ cZ cS a s) [(0, .ref (a 41)), (1, .int x1), (2, .int x2), (3, .int x3)] [] (fun u => u = (wK cB cI cJ cZ cS a s')) := by
  intro n
  induction n with
  | zero => intro s x1 x2 x3 hB; exact none_ne hB
  | succ n ih => intro s x1 x2 x3 hB; exact bkX8_sortByLies_17 ih _ _ _ _ hB
set_option maxHeartbeats 4000000 in
set_option maxRecDepth 100000 in
theorem bkX8_sortByLies {l : Launch} {dC : Nat → ClassId} {dI : Nat → Nat → Nat} {cB cI cJ cZ cS : ClassId} {a : Nat → Nat} {as : List Value} {s' : KS} (s : KS) (x1 : Int32) (x2 : Int32) (hB : kX8_sortByLies s x1 x2 = some s') : BlkV l yX8_sortByLies wsX8_sortByLies ({ frames := 1, cells := 0, slots := 0, locals := 26 }) cX8_sortByLies 5 none (dC, dI) (tysA cB cI cJ cZ cS) as 0 (wK cB cI cJ cZ cS a s) [(0, .ref (a 41)), (1, .int x1), (2, .int x2)] [] (fun u => u = (wK cB cI cJ cZ cS a s')) := by
  intro p e s0 m below meth c A E H locs ls hP hD hS hl
  obtain ⟨C, hr, hlocks, hA, hK, hN⟩ := id E
  obtain ⟨hx, hb, hml, hown, hts⟩ := id C
  unfold kX8_sortByLies at hB
  refine lv_aload_n hx hb dX8_sortByLies_0 rfl (lv_at hl 0 rfl) ?_
  refine q_get (v := .ref (a 46)) C inX8_sortByLies_X8 hK hP 41 rfl rfl 6 (by decide) rfl LX8_sortByLies_24 rfl dX8_sortByLies_1 ?_
  refine lv_iconst (v := 0) hx hb dX8_sortByLies_4 (by decide) ?_
  obtain ⟨s1, hc, hB⟩ := bindP_inv hB
  refine q_gov (wr := (((wK cB cI cJ cZ cS a s)).eraseIdx 46)) (va_runS (As := [.ref (a 46), .int 0]) (rest := []) C (ckJ7_fill_53178_4 hc _) (va_cwS 2 hts gX8_sortByLies_J7_fill_53178 rfl rfl rfl (by decide +kernel) ⟨Nat.le_of_ble_eq_true rfl, Nat.le_of_ble_eq_true rfl⟩) (q_pre hN hK hP hD [46] rfl (by decide)) rfl rfl hl.1 rfl (lv_room (Nat.le_of_ble_eq_true rfl)) dX8_sortByLies_5 ⟨Nat.le_of_ble_eq_true rfl, Nat.le_of_ble_eq_true rfl⟩) hP hD hS hA [46] [0, 1, 2, 3, 4, 5, 6, 7, 8, 9, 10, 11, 12, 13, 14, 15, 16, 17, 18, 19, 20, 21, 22, 23, 24, 25, 26, 27, 28, 29, 30, 31, 32, 33, 34, 35, 36, 37, 38, 39, 40, 41, 42, 43, 44, 45] rfl rfl (by decide) (by decide) (fun w1 H locs hw hP hD hS => ?_)
  subst hw
  obtain ⟨s2, hs3, hB⟩ := letS_inv hB
  have hP : va_P (dC, dI) vwCl (wK cB cI cJ cZ cS a s2) H := by subst hs3; exact hP.sub [0, 1, 2, 3, 4, 5, 6, 7, 8, 9, 10, 11, 12, 13, 14, 15, 16, 17, 18, 19, 20, 21, 22, 23, 24, 25, 26, 27, 28, 29, 30, 31, 32, 33, 34, 35, 36, 37, 38, 39, 40, 41, 42, 43, 44, 45, 46] rfl
  have hD : va_D A (wK cB cI cJ cZ cS a s2) := by subst hs3; exact hD.sub [0, 1, 2, 3, 4, 5, 6, 7, 8, 9, 10, 11, 12, 13, 14, 15, 16, 17, 18, 19, 20, 21, 22, 23, 24, 25, 26, 27, 28, 29, 30, 31, 32, 33, 34, 35, 36, 37, 38, 39, 40, 41, 42, 43, 44, 45, 46] (by decide) rfl
  refine lv_aload_n hx hb dX8_sortByLies_8 rfl (lv_at hl 0 rfl) ?_
  refine q_get (v := .ref (a 46)) C inX8_sortByLies_X8 hK hP 41 rfl rfl 6 (by decide) rfl LX8_sortByLies_24 rfl dX8_sortByLies_9 ?_
  refine lv_iconst (v := 0) hx hb dX8_sortByLies_12 (by decide) ?_
  refine lv_iconst (v := 1) hx hb dX8_sortByLies_13 (by decide) ?_
  obtain ⟨s4, hs5, hB⟩ := letS_inv hB
  refine q_iast (f2 := (upd (s2.f 46) 0 1)) (w2 := (wK cB cI cJ cZ cS a s4)) C hK hP hD hS 46 1 rfl rfl (vp_lit (by decide +kernel)) dX8_sortByLies_14 rfl (by subst hs5; rfl) (fun H locs hP hD hS => ?_)
  refine lv_iconst (v := 0) hx hb dX8_sortByLies_15 (by decide) ?_
  refine lv_istore_n (lv' := [(3, .int 0), (0, .ref (a 41)), (1, .int x1), (2, .int x2)]) hx hb dX8_sortByLies_16 rfl hl (by decide) rfl (fun ls hl => ?_)
  exact bkX8_sortByLies_17L fu _ _ _ _ hB p e s0 m below meth c A E H locs ls hP hD hS (lv_sub hl [1, 2, 3, 0] rfl)
theorem ckX8_sortByLies {l : Launch} {dC : Nat → ClassId} {dI : Nat → Nat → Nat} {cB cI cJ cZ cS : ClassId} {a : Nat → Nat} {s' : KS} {s : KS} {x1 : Int32} {x2 : Int32} (hB : kX8_sortByLies s x1 x2 = some s') : CV l yX8_sortByLies wsX8_sortByLies ({ frames := 1, cells := 0, slots := 0, locals := 26 }) (dC, dI) (tysA cB cI cJ cZ cS) (wK cB cI cJ cZ cS a s) [.ref (a 41), .int x1, .int x2] (fun u => u = (wK cB cI cJ cZ cS a s')) :=
  CV_of (cc := cX8_sortByLies) (maxL := 5) (ret := none) (by decide) rfl (Nat.le_of_ble_eq_true rfl) (bkX8_sortByLies _ _ _ hB)
set_option maxHeartbeats 4000000 in
set_option maxRecDepth 100000 in
theorem bkX8_fitting {l : Launch} {dC : Nat → ClassId} {dI : Nat → Nat → Nat} {cB cI cJ cZ cS : ClassId} {a : Nat → Nat} {as : List Value} {r : Int32} {s' : KS} (s : KS) (x1 : Int32) (x2 : Int32) (hB : kX8_fitting s x1 x2 = some (r, s')) : BlkI l yX8_fitting wsX8_fitting ({ frames := 2, cells := 0, slots := 0, locals := 50 }) cX8_fitting 3 (some .int) (dC, dI) (tysA cB cI cJ cZ cS) as 0 (wK cB cI cJ cZ cS a s) [(0, .ref (a 41)), (1, .int x1), (2, .int x2)] [] (fun x u => x = r ∧ u = (wK cB cI cJ cZ cS a s')) := by
  intro p e s0 m below meth c A E H locs ls hP hD hS hl
  obtain ⟨C, hr, hlocks, hA, hK, hN⟩ := id E
  obtain ⟨hx, hb, hml, hown, hts⟩ := id C
  unfold kX8_fitting at hB
  refine lv_aload_n hx hb dX8_fitting_0 rfl (lv_at hl 0 rfl) ?_
  refine lv_iconst (v := (-1)) hx hb dX8_fitting_1 (by decide) ?_
  refine lv_iload_n hx hb dX8_fitting_2 rfl (lv_at hl 2 rfl) ?_
  obtain ⟨s1, hc, hB⟩ := bindP_inv hB
  refine q_govF (va_runV (As := [.int (-1), .int x2]) (rest := []) C (ckX8_sortByLies hc _) (cwV 2 hts gX8_fitting_X8_sortByLies rfl rfl rfl (by decide +kernel) ⟨Nat.le_of_ble_eq_true rfl, Nat.le_of_ble_eq_true rfl⟩) (q_preV hK hP (ci := 8) (q0 := 41) rfl rfl rfl (q_preF hN hK hP hD)) rfl rfl hl.1 rfl (lv_room (Nat.le_of_ble_eq_true rfl)) dX8_fitting_3 ⟨Nat.le_of_ble_eq_true rfl, Nat.le_of_ble_eq_true rfl⟩) hD hS hA (fun w1 H locs hw hP hD hS => ?_)
  subst hw
  refine lv_aload_n hx hb dX8_fitting_6 rfl (lv_at hl 0 rfl) ?_
  refine lv_iload_n hx hb dX8_fitting_7 rfl (lv_at hl 1 rfl) ?_
  obtain ⟨q_, s2, hc, hB⟩ := bindI_inv hB
  refine q_goiF (va_runV (As := [.int x1]) (rest := []) C (ckX8_upTo hc _) (cwV 1 hts gX8_fitting_X8_upTo rfl rfl rfl (by decide +kernel) ⟨Nat.le_of_ble_eq_true rfl, Nat.le_of_ble_eq_true rfl⟩) (q_preV hK hP (ci := 8) (q0 := 41) rfl rfl rfl (q_preF hN hK hP hD)) rfl rfl hl.1 rfl (lv_room (Nat.le_of_ble_eq_true rfl)) dX8_fitting_8 ⟨Nat.le_of_ble_eq_true rfl, Nat.le_of_ble_eq_true rfl⟩) hD hS hA (fun r3 w1 H locs hw hP hD hS => ?_)
  obtain ⟨hq_, hw⟩ := hw; subst hw; subst hq_
  exact q_iret C hr hlocks hK hP hD hS (Nat.le_of_ble_eq_true rfl) (Nat.le_of_ble_eq_true rfl) dX8_fitting_11 (by cases hB; exact ⟨rfl, rfl⟩)
theorem ckX8_fitting {l : Launch} {dC : Nat → ClassId} {dI : Nat → Nat → Nat} {cB cI cJ cZ cS : ClassId} {a : Nat → Nat} {r : Int32} {s' : KS} {s : KS} {x1 : Int32} {x2 : Int32} (hB : kX8_fitting s x1 x2 = some (r, s')) : CI l yX8_fitting wsX8_fitting ({ frames := 2, cells := 0, slots := 0, locals := 50 }) (dC, dI) (tysA cB cI cJ cZ cS) (wK cB cI cJ cZ cS a s) [.ref (a 41), .int x1, .int x2] (fun x u => x = r ∧ u = (wK cB cI cJ cZ cS a s')) :=
  CI_of (cc := cX8_fitting) (maxL := 3) (ret := (some .int)) (by decide) rfl (Nat.le_of_ble_eq_true rfl) (bkX8_fitting _ _ _ hB)
theorem LX8_liars_15 : Cond.fieldLink RX8 15 "GuessFerry$Tellers" "toldThings" "[I" ∈ wsX8_liars := by decide +kernel
theorem LX8_liars_27 : Cond.fieldLink RX8 27 "GuessFerry$Tellers" "sound" "LGuessFerry$Sound;" ∈ wsX8_liars := by decide +kernel
theorem LX8_liars_9 : Cond.fieldLink RX8 9 "GuessFerry$Tellers" "toldWaves" "[I" ∈ wsX8_liars := by decide +kernel
theorem inX8_liars_X5 : ∀ w ∈ u_ws RX5 TX5 10, w ∈ wsX8_liars := by decide +kernel
theorem inX8_liars_X8 : ∀ w ∈ u_ws RX8 TX8 8, w ∈ wsX8_liars := by decide +kernel
set_option maxHeartbeats 4000000 in
set_option maxRecDepth 100000 in
theorem bkX8_liars_111 {l : Launch} {dC : Nat → ClassId} {dI : Nat → Nat → Nat} {cB cI cJ cZ cS : ClassId} {a : Nat → Nat} {as : List Value} {r : Int32} {s' : KS} {k5 : KS → Int32 → Int32 → Int32 → Int32 → Option (Int32 × KS)} {k71 : KS → Int32 → Int32 → Int32 → Int32 → Int32 → Int32 → Option (Int32 × KS)} (hk5 : ∀ (s : KS) (x1 : Int32) (x2 : Int32) (x3 : Int32) (x4 : Int32), k5 s x1 x2 x3 x4 = some (r, s') → BlkI l yX8_liars wsX8_liars ({ frames := 2, cells := 0, slots := 0, locals := 50 }) cX8_liars 7 (some .int) (dC, dI) (tysA cB cI cJ cZ cS) as 5 (wK cB cI cJ cZ cS a s) [(0, .ref (a 41)), (1, .int x1), (2, .int x2), (3, .int x3), (4, .int x4)] [] (fun x u => x = r ∧ u = (wK cB cI cJ cZ cS a s'))) (hk71 : ∀ (s : KS) (x1 : Int32) (x2 : Int32) (x3 : Int32) (x4 : Int32) (x5 : Int32) (x6 : Int32), k71 s x1 x2 x3 x4 x5 x6 = some (r, s') → BlkI l yX8_liars wsX8_liars ({ frames := 2, cells := 0, slots := 0, locals := 50 }) cX8_liars 7 (some .int) (dC, dI) (tysA cB cI cJ cZ cS) as 71 (wK cB cI cJ cZ cS a s) [(0, .ref (a 41)), (1, .int x1), (2, .int x2), (3, .int x3), (4, .int x4), (5, .int x5), (6, .int x6)] [] (fun x u => x = r ∧ u = (wK cB cI cJ cZ cS a s'))) (s : KS) (x1 : Int32) (x2 : Int32) (x4 : Int32) (x5 : Int32) (x6 : Int32) (t0 : Int32) (t1 : Int32) (hB : kX8_liars_111 k5 k71 s x1 x2 x4 x5 x6 t0 t1 = some (r, s')) : BlkI l yX8_liars wsX8_liars ({ frames := 2, cells := 0, slots := 0, locals := 50 }) cX8_liars 7 (some .int) (dC, dI) (tysA cB cI cJ cZ cS) as 111 (wK cB cI cJ cZ cS a s) [(0, .ref (a 41)), (1, .int x1), (2, .int x2), (4, .int x4), (5, .int x5), (6, .int x6)] [.int t0, .int t1] (fun x u => x = r ∧ u = (wK cB cI cJ cZ cS a s')) := by
  intro p e s0 m below meth c A E H locs ls hP hD hS hl
  obtain ⟨C, hr, hlocks, hA, hK, hN⟩ := id E
  obtain ⟨hx, hb, hml, hown, hts⟩ := id C
  unfold kX8_liars_111 at hB
  refine lv_ior hx hb dX8_liars_111 ?_
  refine lv_istore_n (lv' := [(3, .int (t1 ||| t0)), (0, .ref (a 41)), (1, .int x1), (2, .int x2), (4, .int x4), (5, .int x5), (6, .int x6)]) hx hb dX8_liars_112 rfl hl (by decide) rfl (fun ls hl => ?_)
  refine lv_iinc (v := (x6 + 1)) (lv' := [(6, .int (x6 + 1)), (3, .int (t1 ||| t0)), (0, .ref (a 41)), (1, .int x1), (2, .int x2), (4, .int x4), (5, .int x5)]) hx hb dX8_liars_113 hl (k := 6) rfl (rfl) (by decide) rfl (fun ls hl => ?_)
  refine lv_goto (tgt := 71) hx hb dX8_liars_116 (by decide) ?_
  exact hk71 _ _ _ _ _ _ _ hB p e s0 m below meth c A E H locs ls hP hD hS (lv_sub hl [2, 3, 4, 1, 5, 6, 0] rfl)
set_option maxHeartbeats 4000000 in
set_option maxRecDepth 100000 in
theorem bkX8_liars_110 {l : Launch} {dC : Nat → ClassId} {dI : Nat → Nat → Nat} {cB cI cJ cZ cS : ClassId} {a : Nat → Nat} {as : List Value} {r : Int32} {s' : KS} {k5 : KS → Int32 → Int32 → Int32 → Int32 → Option (Int32 × KS)} {k71 : KS → Int32 → Int32 → Int32 → Int32 → Int32 → Int32 → Option (Int32 × KS)} (hk5 : ∀ (s : KS) (x1 : Int32) (x2 : Int32) (x3 : Int32) (x4 : Int32), k5 s x1 x2 x3 x4 = some (r, s') → BlkI l yX8_liars wsX8_liars ({ frames := 2, cells := 0, slots := 0, locals := 50 }) cX8_liars 7 (some .int) (dC, dI) (tysA cB cI cJ cZ cS) as 5 (wK cB cI cJ cZ cS a s) [(0, .ref (a 41)), (1, .int x1), (2, .int x2), (3, .int x3), (4, .int x4)] [] (fun x u => x = r ∧ u = (wK cB cI cJ cZ cS a s'))) (hk71 : ∀ (s : KS) (x1 : Int32) (x2 : Int32) (x3 : Int32) (x4 : Int32) (x5 : Int32) (x6 : Int32), k71 s x1 x2 x3 x4 x5 x6 = some (r, s') → BlkI l yX8_liars wsX8_liars ({ frames := 2, cells := 0, slots := 0, locals := 50 }) cX8_liars 7 (some .int) (dC, dI) (tysA cB cI cJ cZ cS) as 71 (wK cB cI cJ cZ cS a s) [(0, .ref (a 41)), (1, .int x1), (2, .int x2), (3, .int x3), (4, .int x4), (5, .int x5), (6, .int x6)] [] (fun x u => x = r ∧ u = (wK cB cI cJ cZ cS a s'))) (s : KS) (x1 : Int32) (x2 : Int32) (x4 : Int32) (x5 : Int32) (x6 : Int32) (t0 : Int32) (hB : kX8_liars_110 k5 k71 s x1 x2 x4 x5 x6 t0 = some (r, s')) : BlkI l yX8_liars wsX8_liars ({ frames := 2, cells := 0, slots := 0, locals := 50 }) cX8_liars 7 (some .int) (dC, dI) (tysA cB cI cJ cZ cS) as 110 (wK cB cI cJ cZ cS a s) [(0, .ref (a 41)), (1, .int x1), (2, .int x2), (4, .int x4), (5, .int x5), (6, .int x6)] [.int t0] (fun x u => x = r ∧ u = (wK cB cI cJ cZ cS a s')) := by
  intro p e s0 m below meth c A E H locs ls hP hD hS hl
  obtain ⟨C, hr, hlocks, hA, hK, hN⟩ := id E
  obtain ⟨hx, hb, hml, hown, hts⟩ := id C
  unfold kX8_liars_110 at hB
  refine lv_iconst (v := 0) hx hb dX8_liars_110 (by decide) ?_
  exact bkX8_liars_111 (hk5) (hk71) _ _ _ _ _ _ _ _ hB p e s0 m below meth c A E H locs ls hP hD hS (lv_sub hl [0, 1, 2, 3, 4, 5] rfl)
set_option maxHeartbeats 4000000 in
set_option maxRecDepth 100000 in
theorem bkX8_liars_71 {l : Launch} {dC : Nat → ClassId} {dI : Nat → Nat → Nat} {cB cI cJ cZ cS : ClassId} {a : Nat → Nat} {as : List Value} {r : Int32} {s' : KS} {k5 : KS → Int32 → Int32 → Int32 → Int32 → Option (Int32 × KS)} {k71 : KS → Int32 → Int32 → Int32 → Int32 → Int32 → Int32 → Option (Int32 × KS)} (hk5 : ∀ (s : KS) (x1 : Int32) (x2 : Int32) (x3 : Int32) (x4 : Int32), k5 s x1 x2 x3 x4 = some (r, s') → BlkI l yX8_liars wsX8_liars ({ frames := 2, cells := 0, slots := 0, locals := 50 }) cX8_liars 7 (some .int) (dC, dI) (tysA cB cI cJ cZ cS) as 5 (wK cB cI cJ cZ cS a s) [(0, .ref (a 41)), (1, .int x1), (2, .int x2), (3, .int x3), (4, .int x4)] [] (fun x u => x = r ∧ u = (wK cB cI cJ cZ cS a s'))) (hk71 : ∀ (s : KS) (x1 : Int32) (x2 : Int32) (x3 : Int32) (x4 : Int32) (x5 : Int32) (x6 : Int32), k71 s x1 x2 x3 x4 x5 x6 = some (r, s') → BlkI l yX8_liars wsX8_liars ({ frames := 2, cells := 0, slots := 0, locals := 50 }) cX8_liars 7 (some .int) (dC, dI) (tysA cB cI cJ cZ cS) as 71 (wK cB cI cJ cZ cS a s) [(0, .ref (a 41)), (1, .int x1), (2, .int x2), (3, .int x3), (4, .int x4), (5, .int x5), (6, .int x6)] [] (fun x u => x = r ∧ u = (wK cB cI cJ cZ cS a s'))) (s : KS) (x1 : Int32) (x2 : Int32) (x3 : Int32) (x4 : Int32) (x5 : Int32) (x6 : Int32) (hB : kX8_liars_71 k5 k71 s x1 x2 x3 x4 x5 x6 = some (r, s')) : BlkI l yX8_liars wsX8_liars ({ frames := 2, cells := 0, slots := 0, locals := 50 }) cX8_liars 7 (some .int) (dC, dI) (tysA cB cI cJ cZ cS) as 71 (wK cB cI cJ cZ cS a s) [(0, .ref (a 41)), (1, .int x1), (2, .int x2), (3, .int x3), (4, .int x4), (5, .int x5), (6, .int x6)] [] (fun x u => x = r ∧ u = (wK cB cI cJ cZ cS a s')) := by
  intro p e s0 m below meth c A E H locs ls hP hD hS hl
  obtain ⟨C, hr, hlocks, hA, hK, hN⟩ := id E
  obtain ⟨hx, hb, hml, hown, hts⟩ := id C
  unfold kX8_liars_71 at hB
  refine lv_iload hx hb dX8_liars_71 (lv_at hl 6 rfl) ?_
  refine lv_iload_n hx hb dX8_liars_73 rfl (lv_at hl 1 rfl) ?_
  refine lv_icmp_ge (tgt := 119) hx hb dX8_liars_74 (by decide) (fun c1 => ?_) (fun c1 => ?_)
  · have hB := if_p hB c1
    refine lv_iinc (v := (x4 + 1)) (lv' := [(4, .int (x4 + 1)), (0, .ref (a 41)), (1, .int x1), (2, .int x2), (3, .int x3), (5, .int x5), (6, .int x6)]) hx hb dX8_liars_119 hl (k := 4) rfl (rfl) (by decide) rfl (fun ls hl => ?_)
    refine lv_goto (tgt := 5) hx hb dX8_liars_122 (by decide) ?_
    exact hk5 _ _ _ _ _ hB p e s0 m below meth c A E H locs ls hP hD hS (lv_sub hl [1, 2, 3, 4, 0] rfl)
  · have hB := if_n hB c1
    refine lv_iload_n hx hb dX8_liars_77 rfl (lv_at hl 3 rfl) ?_
    refine lv_aload_n hx hb dX8_liars_78 rfl (lv_at hl 0 rfl) ?_
    refine q_get (v := .ref (a 42)) C inX8_liars_X8 hK hP 41 rfl rfl 2 (by decide) rfl LX8_liars_9 rfl dX8_liars_79 ?_
    refine lv_iload hx hb dX8_liars_82 (lv_at hl 6 rfl) ?_
    obtain ⟨g2, hB⟩ := guard_inv hB
    refine q_iald (x := ((s.f 42) (Int32.toNatClampNeg x6))) C hK hP 42 1 rfl rfl (vpb_in g2) dX8_liars_84 rfl ?_
    refine lv_iload hx hb dX8_liars_85 (lv_at hl 4 rfl) ?_
    refine lv_icmp_ne (tgt := 110) hx hb dX8_liars_87 (by decide) (fun c3 => ?_) (fun c3 => ?_)
    · have hB := if_n hB c3
      exact bkX8_liars_110 (hk5) (hk71) _ _ _ _ _ _ _ hB p e s0 m below meth c A E H locs ls hP hD hS (lv_sub hl [0, 1, 2, 4, 5, 6] rfl)
    · have hB := if_p hB c3
      refine lv_aload_n hx hb dX8_liars_90 rfl (lv_at hl 0 rfl) ?_
      refine q_get (v := .ref (a 43)) C inX8_liars_X8 hK hP 41 rfl rfl 3 (by decide) rfl LX8_liars_15 rfl dX8_liars_91 ?_
      refine lv_iload hx hb dX8_liars_94 (lv_at hl 6 rfl) ?_
      obtain ⟨g4, hB⟩ := guard_inv hB
      refine q_iald (x := ((s.f 43) (Int32.toNatClampNeg x6))) C hK hP 43 1 rfl rfl (vpb_in g4) dX8_liars_96 rfl ?_
      refine lv_iload hx hb dX8_liars_97 (lv_at hl 5 rfl) ?_
      refine lv_iand hx hb dX8_liars_99 ?_
      refine lv_if_ne (tgt := 110) hx hb dX8_liars_100 (by decide) (fun c5 => ?_) (fun c5 => ?_)
      · have hB := if_n hB c5
        exact bkX8_liars_110 (hk5) (hk71) _ _ _ _ _ _ _ hB p e s0 m below meth c A E H locs ls hP hD hS (lv_sub hl [0, 1, 2, 4, 5, 6] rfl)
      · have hB := if_p hB c5
        refine lv_iconst (v := 1) hx hb dX8_liars_103 (by decide) ?_
        refine lv_iload hx hb dX8_liars_104 (lv_at hl 6 rfl) ?_
        refine lv_ishl hx hb dX8_liars_106 ?_
        refine lv_goto (tgt := 111) hx hb dX8_liars_107 (by decide) ?_
        exact bkX8_liars_111 (hk5) (hk71) _ _ _ _ _ _ _ _ hB p e s0 m below meth c A E H locs ls hP hD hS (lv_sub hl [0, 1, 2, 4, 5, 6] rfl)
theorem bkX8_liars_71L {l : Launch} {dC : Nat → ClassId} {dI : Nat → Nat → Nat} {cB cI cJ cZ cS : ClassId} {a : Nat → Nat} {as : List Value} {r : Int32} {s' : KS} {k5 : KS → Int32 → Int32 → Int32 → Int32 → Option (Int32 × KS)} (hk5 : ∀ (s : KS) (x1 : Int32) (x2 : Int32) (x3 : Int32) (x4 : Int32), k5 s x1 x2 x3 x4 = some (r, s') → BlkI l yX8_liars wsX8_liars ({ frames := 2, cells := 0, slots := 0, locals := 50 }) cX8_liars 7 (some .int) (dC, dI) (tysA cB cI cJ cZ cS) as 5 (wK cB cI cJ cZ cS a s) [(0, .ref (a 41)), (1, .int x1), (2, .int x2), (3, .int x3), (4, .int x4)] [] (fun x u => x = r ∧ u = (wK cB cI cJ cZ cS a s'))) : ∀ (n : Nat) (s : KS) (x1 : Int32) (x2 : Int32) (x3 : Int32) (x4 : Int32) (x5 : Int32) (x6 : Int32), kX8_liars_71L k5 n s x1 x2 x3 x4 x5 x6 = some (r, s') → BlkI l yX8_liars wsX8_liars ({ frames := 2, cells := 0, slots := 0, locals := 50 }) cX8_liars 7 (some .int) (dC, dI) (tysA cB cI cJ cZ cS) as 71 (wK cB cI cJ cZ cS a s) [(0, .ref (a 41)), (1, .int x1), (2, .int x2), (3, .int x3), (4, .int x4), (5, .int x5), (6, .int x6)] [] (fun x u => x = r ∧ u = (wK cB cI cJ cZ cS a s')) := by
  intro n
  induction n with
  | zero => intro s x1 x2 x3 x4 x5 x6 hB; exact none_ne hB
  | succ n ih => intro s x1 x2 x3 x4 x5 x6 hB; exact bkX8_liars_71 hk5 ih _ _ _ _ _ _ _ hB
set_option maxHeartbeats 4000000 in
set_option maxRecDepth 100000 in
theorem bkX8_liars_59 {l : Launch} {dC : Nat → ClassId} {dI : Nat → Nat → Nat} {cB cI cJ cZ cS : ClassId} {a : Nat → Nat} {as : List Value} {r : Int32} {s' : KS} {k5 : KS → Int32 → Int32 → Int32 → Int32 → Option (Int32 × KS)} {k30 : KS → Int32 → Int32 → Int32 → Int32 → Int32 → Int32 → Option (Int32 × KS)} (hk5 : ∀ (s : KS) (x1 : Int32) (x2 : Int32) (x3 : Int32) (x4 : Int32), k5 s x1 x2 x3 x4 = some (r, s') → BlkI l yX8_liars wsX8_liars ({ frames := 2, cells := 0, slots := 0, locals := 50 }) cX8_liars 7 (some .int) (dC, dI) (tysA cB cI cJ cZ cS) as 5 (wK cB cI cJ cZ cS a s) [(0, .ref (a 41)), (1, .int x1), (2, .int x2), (3, .int x3), (4, .int x4)] [] (fun x u => x = r ∧ u = (wK cB cI cJ cZ cS a s'))) (hk30 : ∀ (s : KS) (x1 : Int32) (x2 : Int32) (x3 : Int32) (x4 : Int32) (x5 : Int32) (x6 : Int32), k30 s x1 x2 x3 x4 x5 x6 = some (r, s') → BlkI l yX8_liars wsX8_liars ({ frames := 2, cells := 0, slots := 0, locals := 50 }) cX8_liars 7 (some .int) (dC, dI) (tysA cB cI cJ cZ cS) as 30 (wK cB cI cJ cZ cS a s) [(0, .ref (a 41)), (1, .int x1), (2, .int x2), (3, .int x3), (4, .int x4), (5, .int x5), (6, .int x6)] [] (fun x u => x = r ∧ u = (wK cB cI cJ cZ cS a s'))) (s : KS) (x1 : Int32) (x2 : Int32) (x3 : Int32) (x4 : Int32) (x6 : Int32) (t0 : Int32) (t1 : Int32) (hB : kX8_liars_59 k5 k30 s x1 x2 x3 x4 x6 t0 t1 = some (r, s')) : BlkI l yX8_liars wsX8_liars ({ frames := 2, cells := 0, slots := 0, locals := 50 }) cX8_liars 7 (some .int) (dC, dI) (tysA cB cI cJ cZ cS) as 59 (wK cB cI cJ cZ cS a s) [(0, .ref (a 41)), (1, .int x1), (2, .int x2), (3, .int x3), (4, .int x4), (6, .int x6)] [.int t0, .int t1] (fun x u => x = r ∧ u = (wK cB cI cJ cZ cS a s')) := by
  intro p e s0 m below meth c A E H locs ls hP hD hS hl
  obtain ⟨C, hr, hlocks, hA, hK, hN⟩ := id E
  obtain ⟨hx, hb, hml, hown, hts⟩ := id C
  unfold kX8_liars_59 at hB
  refine lv_ior hx hb dX8_liars_59 ?_
  refine lv_istore (lv' := [(5, .int (t1 ||| t0)), (0, .ref (a 41)), (1, .int x1), (2, .int x2), (3, .int x3), (4, .int x4), (6, .int x6)]) hx hb dX8_liars_60 hl (by decide) rfl (fun ls hl => ?_)
  refine lv_iinc (v := (x6 + 1)) (lv' := [(6, .int (x6 + 1)), (5, .int (t1 ||| t0)), (0, .ref (a 41)), (1, .int x1), (2, .int x2), (3, .int x3), (4, .int x4)]) hx hb dX8_liars_62 hl (k := 6) rfl (rfl) (by decide) rfl (fun ls hl => ?_)
  refine lv_goto (tgt := 30) hx hb dX8_liars_65 (by decide) ?_
  exact hk30 _ _ _ _ _ _ _ hB p e s0 m below meth c A E H locs ls hP hD hS (lv_sub hl [2, 3, 4, 5, 6, 1, 0] rfl)
set_option maxHeartbeats 4000000 in
set_option maxRecDepth 100000 in
theorem bkX8_liars_30 {l : Launch} {dC : Nat → ClassId} {dI : Nat → Nat → Nat} {cB cI cJ cZ cS : ClassId} {a : Nat → Nat} {as : List Value} {r : Int32} {s' : KS} {k5 : KS → Int32 → Int32 → Int32 → Int32 → Option (Int32 × KS)} {k30 : KS → Int32 → Int32 → Int32 → Int32 → Int32 → Int32 → Option (Int32 × KS)} (hk5 : ∀ (s : KS) (x1 : Int32) (x2 : Int32) (x3 : Int32) (x4 : Int32), k5 s x1 x2 x3 x4 = some (r, s') → BlkI l yX8_liars wsX8_liars ({ frames := 2, cells := 0, slots := 0, locals := 50 }) cX8_liars 7 (some .int) (dC, dI) (tysA cB cI cJ cZ cS) as 5 (wK cB cI cJ cZ cS a s) [(0, .ref (a 41)), (1, .int x1), (2, .int x2), (3, .int x3), (4, .int x4)] [] (fun x u => x = r ∧ u = (wK cB cI cJ cZ cS a s'))) (hk30 : ∀ (s : KS) (x1 : Int32) (x2 : Int32) (x3 : Int32) (x4 : Int32) (x5 : Int32) (x6 : Int32), k30 s x1 x2 x3 x4 x5 x6 = some (r, s') → BlkI l yX8_liars wsX8_liars ({ frames := 2, cells := 0, slots := 0, locals := 50 }) cX8_liars 7 (some .int) (dC, dI) (tysA cB cI cJ cZ cS) as 30 (wK cB cI cJ cZ cS a s) [(0, .ref (a 41)), (1, .int x1), (2, .int x2), (3, .int x3), (4, .int x4), (5, .int x5), (6, .int x6)] [] (fun x u => x = r ∧ u = (wK cB cI cJ cZ cS a s'))) (s : KS) (x1 : Int32) (x2 : Int32) (x3 : Int32) (x4 : Int32) (x5 : Int32) (x6 : Int32) (hB : kX8_liars_30 k5 k30 s x1 x2 x3 x4 x5 x6 = some (r, s')) : BlkI l yX8_liars wsX8_liars ({ frames := 2, cells := 0, slots := 0, locals := 50 }) cX8_liars 7 (some .int) (dC, dI) (tysA cB cI cJ cZ cS) as 30 (wK cB cI cJ cZ cS a s) [(0, .ref (a 41)), (1, .int x1), (2, .int x2), (3, .int x3), (4, .int x4), (5, .int x5), (6, .int x6)] [] (fun x u => x = r ∧ u = (wK cB cI cJ cZ cS a s')) := by
  intro p e s0 m below meth c A E H locs ls hP hD hS hl
  obtain ⟨C, hr, hlocks, hA, hK, hN⟩ := id E
  obtain ⟨hx, hb, hml, hown, hts⟩ := id C
  unfold kX8_liars_30 at hB
  refine lv_iload hx hb dX8_liars_30 (lv_at hl 6 rfl) ?_
  refine lv_bipush (v := 6) hx hb dX8_liars_32 (by decide) ?_
  refine lv_icmp_ge (tgt := 68) hx hb dX8_liars_34 (by decide) (fun c1 => ?_) (fun c1 => ?_)
  · have hB := if_p hB c1
    refine lv_iconst (v := 0) hx hb dX8_liars_68 (by decide) ?_
    refine lv_istore (lv' := [(6, .int 0), (0, .ref (a 41)), (1, .int x1), (2, .int x2), (3, .int x3), (4, .int x4), (5, .int x5)]) hx hb dX8_liars_69 hl (by decide) rfl (fun ls hl => ?_)
    exact bkX8_liars_71L (hk5) fu _ _ _ _ _ _ _ hB p e s0 m below meth c A E H locs ls hP hD hS (lv_sub hl [1, 2, 3, 4, 5, 6, 0] rfl)
  · have hB := if_n hB c1
    refine lv_iload hx hb dX8_liars_37 (lv_at hl 5 rfl) ?_
    refine lv_aload_n hx hb dX8_liars_39 rfl (lv_at hl 0 rfl) ?_
    refine lv_iload hx hb dX8_liars_40 (lv_at hl 4 rfl) ?_
    refine lv_iload hx hb dX8_liars_42 (lv_at hl 6 rfl) ?_
    refine lv_iload_n hx hb dX8_liars_44 rfl (lv_at hl 2 rfl) ?_
    obtain ⟨q_, s2, hc, hB⟩ := bindI_inv hB
    refine q_goiF (va_runV (As := [.int x4, .int x6, .int x2]) (rest := [.int x5]) C (ckX8_fittingWith hc _) (cwV 3 hts gX8_liars_X8_fittingWith rfl rfl rfl (by decide +kernel) ⟨Nat.le_of_ble_eq_true rfl, Nat.le_of_ble_eq_true rfl⟩) (q_preV hK hP (ci := 8) (q0 := 41) rfl rfl rfl (q_preF hN hK hP hD)) rfl rfl hl.1 rfl (lv_room (Nat.le_of_ble_eq_true rfl)) dX8_liars_45 ⟨Nat.le_of_ble_eq_true rfl, Nat.le_of_ble_eq_true rfl⟩) hD hS hA (fun r3 w1 H locs hw hP hD hS => ?_)
    obtain ⟨hq_, hw⟩ := hw; subst hw; subst hq_
    refine lv_if_le (tgt := 58) hx hb dX8_liars_48 (by decide) (fun c4 => ?_) (fun c4 => ?_)
    · have hB := if_p hB c4
      refine lv_iconst (v := 0) hx hb dX8_liars_58 (by decide) ?_
      exact bkX8_liars_59 (hk5) (hk30) _ _ _ _ _ _ _ _ hB p e s0 m below meth c A E H locs ls hP hD hS (lv_sub hl [0, 1, 2, 3, 4, 6] rfl)
    · have hB := if_n hB c4
      refine lv_iconst (v := 1) hx hb dX8_liars_51 (by decide) ?_
      refine lv_iload hx hb dX8_liars_52 (lv_at hl 6 rfl) ?_
      refine lv_ishl hx hb dX8_liars_54 ?_
      refine lv_goto (tgt := 59) hx hb dX8_liars_55 (by decide) ?_
      exact bkX8_liars_59 (hk5) (hk30) _ _ _ _ _ _ _ _ hB p e s0 m below meth c A E H locs ls hP hD hS (lv_sub hl [0, 1, 2, 3, 4, 6] rfl)
theorem bkX8_liars_30L {l : Launch} {dC : Nat → ClassId} {dI : Nat → Nat → Nat} {cB cI cJ cZ cS : ClassId} {a : Nat → Nat} {as : List Value} {r : Int32} {s' : KS} {k5 : KS → Int32 → Int32 → Int32 → Int32 → Option (Int32 × KS)} (hk5 : ∀ (s : KS) (x1 : Int32) (x2 : Int32) (x3 : Int32) (x4 : Int32), k5 s x1 x2 x3 x4 = some (r, s') → BlkI l yX8_liars wsX8_liars ({ frames := 2, cells := 0, slots := 0, locals := 50 }) cX8_liars 7 (some .int) (dC, dI) (tysA cB cI cJ cZ cS) as 5 (wK cB cI cJ cZ cS a s) [(0, .ref (a 41)), (1, .int x1), (2, .int x2), (3, .int x3), (4, .int x4)] [] (fun x u => x = r ∧ u = (wK cB cI cJ cZ cS a s'))) : ∀ (n : Nat) (s : KS) (x1 : Int32) (x2 : Int32) (x3 : Int32) (x4 : Int32) (x5 : Int32) (x6 : Int32), kX8_liars_30L k5 n s x1 x2 x3 x4 x5 x6 = some (r, s') → BlkI l yX8_liars wsX8_liars ({ frames := 2, cells := 0, slots := 0, locals := 50 }) cX8_liars 7 (some .int) (dC, dI) (tysA cB cI cJ cZ cS) as 30 (wK cB cI cJ cZ cS a s) [(0, .ref (a 41)), (1, .int x1), (2, .int x2), (3, .int x3), (4, .int x4), (5, .int x5), (6, .int x6)] [] (fun x u => x = r ∧ u = (wK cB cI cJ cZ cS a s')) := by
  intro n
  induction n with
  | zero => intro s x1 x2 x3 x4 x5 x6 hB; exact none_ne hB
  | succ n ih => intro s x1 x2 x3 x4 x5 x6 hB; exact bkX8_liars_30 hk5 ih _ _ _ _ _ _ _ hB
set_option maxHeartbeats 4000000 in
set_option maxRecDepth 100000 in
theorem bkX8_liars_5 {l : Launch} {dC : Nat → ClassId} {dI : Nat → Nat → Nat} {cB cI cJ cZ cS : ClassId} {a : Nat → Nat} {as : List Value} {r : Int32} {s' : KS} {k5 : KS → Int32 → Int32 → Int32 → Int32 → Option (Int32 × KS)} (hk5 : ∀ (s : KS) (x1 : Int32) (x2 : Int32) (x3 : Int32) (x4 : Int32), k5 s x1 x2 x3 x4 = some (r, s') → BlkI l yX8_liars wsX8_liars ({ frames := 2, cells := 0, slots := 0, locals := 50 }) cX8_liars 7 (some .int) (dC, dI) (tysA cB cI cJ cZ cS) as 5 (wK cB cI cJ cZ cS a s) [(0, .ref (a 41)), (1, .int x1), (2, .int x2), (3, .int x3), (4, .int x4)] [] (fun x u => x = r ∧ u = (wK cB cI cJ cZ cS a s'))) (s : KS) (x1 : Int32) (x2 : Int32) (x3 : Int32) (x4 : Int32) (hB : kX8_liars_5 k5 s x1 x2 x3 x4 = some (r, s')) : BlkI l yX8_liars wsX8_liars ({ frames := 2, cells := 0, slots := 0, locals := 50 }) cX8_liars 7 (some .int) (dC, dI) (tysA cB cI cJ cZ cS) as 5 (wK cB cI cJ cZ cS a s) [(0, .ref (a 41)), (1, .int x1), (2, .int x2), (3, .int x3), (4, .int x4)] [] (fun x u => x = r ∧ u = (wK cB cI cJ cZ cS a s')) := by
  intro p e s0 m below meth c A E H locs ls hP hD hS hl
  obtain ⟨C, hr, hlocks, hA, hK, hN⟩ := id E
  obtain ⟨hx, hb, hml, hown, hts⟩ := id C
  unfold kX8_liars_5 at hB
  refine lv_iload hx hb dX8_liars_5 (lv_at hl 4 rfl) ?_
  refine lv_aload_n hx hb dX8_liars_7 rfl (lv_at hl 0 rfl) ?_
  refine q_get (v := .ref (a 2)) C inX8_liars_X8 hK hP 41 rfl rfl 0 (by decide) rfl LX8_liars_27 rfl dX8_liars_8 ?_
  refine q_getN (v := .int (s.v 1)) C hN inX8_liars_X5 hK hP 2 rfl rfl 6 (by decide) rfl nwF_X8_39 rfl dX8_liars_11 ?_
  refine lv_icmp_ge (tgt := 125) hx hb dX8_liars_14 (by decide) (fun c1 => ?_) (fun c1 => ?_)
  · have hB := if_p hB c1
    refine lv_iload_n hx hb dX8_liars_125 rfl (lv_at hl 3 rfl) ?_
    exact q_iret C hr hlocks hK hP hD hS (Nat.le_of_ble_eq_true rfl) (Nat.le_of_ble_eq_true rfl) dX8_liars_126 (by cases hB; exact ⟨rfl, rfl⟩)
  · have hB := if_n hB c1
    refine lv_aload_n hx hb dX8_liars_17 rfl (lv_at hl 0 rfl) ?_
    refine lv_iload hx hb dX8_liars_18 (lv_at hl 4 rfl) ?_
    refine lv_iconst (v := 0) hx hb dX8_liars_20 (by decide) ?_
    obtain ⟨s2, hc, hB⟩ := bindP_inv hB
    refine q_govF (va_runV (As := [.int x4, .int 0]) (rest := []) C (ckX8_sortByLies hc _) (cwV 2 hts gX8_liars_X8_sortByLies rfl rfl rfl (by decide +kernel) ⟨Nat.le_of_ble_eq_true rfl, Nat.le_of_ble_eq_true rfl⟩) (q_preV hK hP (ci := 8) (q0 := 41) rfl rfl rfl (q_preF hN hK hP hD)) rfl rfl hl.1 rfl (lv_room (Nat.le_of_ble_eq_true rfl)) dX8_liars_21 ⟨Nat.le_of_ble_eq_true rfl, Nat.le_of_ble_eq_true rfl⟩) hD hS hA (fun w1 H locs hw hP hD hS => ?_)
    subst hw
    refine lv_iconst (v := 0) hx hb dX8_liars_24 (by decide) ?_
    refine lv_istore (lv' := [(5, .int 0), (0, .ref (a 41)), (1, .int x1), (2, .int x2), (3, .int x3), (4, .int x4)]) hx hb dX8_liars_25 hl (by decide) rfl (fun ls hl => ?_)
    refine lv_iconst (v := 0) hx hb dX8_liars_27 (by decide) ?_
    refine lv_istore (lv' := [(6, .int 0), (5, .int 0), (0, .ref (a 41)), (1, .int x1), (2, .int x2), (3, .int x3), (4, .int x4)]) hx hb dX8_liars_28 hl (by decide) rfl (fun ls hl => ?_)
    exact bkX8_liars_30L (hk5) fu _ _ _ _ _ _ _ hB p e s0 m below meth c A E H locs ls hP hD hS (lv_sub hl [2, 3, 4, 5, 6, 1, 0] rfl)
theorem bkX8_liars_5L {l : Launch} {dC : Nat → ClassId} {dI : Nat → Nat → Nat} {cB cI cJ cZ cS : ClassId} {a : Nat → Nat} {as : List Value} {r : Int32} {s' : KS} : ∀ (n : Nat) (s : KS) (x1 : Int32) (x2 : Int32) (x3 : Int32) (x4 : Int32), kX8_liars_5L n s x1 x2 x3 x4 = some (r, s') → BlkI l yX8_liars wsX8_liars ({ frames := 2, cells := 0, slots := 0, locals := 50 }) cX8_liars 7 (some .int) (dC, dI) (tysA cB cI cJ cZ cS) as 5 (wK cB cI cJ cZ cS a s) [(0, .ref (a 41)), (1, .int x1), (2, .int x2), (3, .int x3), (4, .int x4)] [] (fun x u => x = r ∧ u = (wK cB cI cJ cZ cS a s')) := by
  intro n
  induction n with
  | zero => intro s x1 x2 x3 x4 hB; exact none_ne hB
  | succ n ih => intro s x1 x2 x3 x4 hB; exact bkX8_liars_5 ih _ _ _ _ _ hB
set_option maxHeartbeats 4000000 in
set_option maxRecDepth 100000 in
theorem bkX8_liars {l : Launch} {dC : Nat → ClassId} {dI : Nat → Nat → Nat} {cB cI cJ cZ cS : ClassId} {a : Nat → Nat} {as : List Value} {r : Int32} {s' : KS} (s : KS) (x1 : Int32) (x2 : Int32) (hB : kX8_liars s x1 x2 = some (r, s')) : BlkI l yX8_liars wsX8_liars ({ frames := 2, cells := 0, slots := 0, locals := 50 }) cX8_liars 7 (some .int) (dC, dI) (tysA cB cI cJ cZ cS) as 0 (wK cB cI cJ cZ cS a s) [(0, .ref (a 41)), (1, .int x1), (2, .int x2)] [] (fun x u => x = r ∧ u = (wK cB cI cJ cZ cS a s')) := by
  intro p e s0 m below meth c A E H locs ls hP hD hS hl
  obtain ⟨C, hr, hlocks, hA, hK, hN⟩ := id E
  obtain ⟨hx, hb, hml, hown, hts⟩ := id C
  unfold kX8_liars at hB
  refine lv_iconst (v := 0) hx hb dX8_liars_0 (by decide) ?_
  refine lv_istore_n (lv' := [(3, .int 0), (0, .ref (a 41)), (1, .int x1), (2, .int x2)]) hx hb dX8_liars_1 rfl hl (by decide) rfl (fun ls hl => ?_)
  refine lv_iconst (v := 0) hx hb dX8_liars_2 (by decide) ?_
  refine lv_istore (lv' := [(4, .int 0), (3, .int 0), (0, .ref (a 41)), (1, .int x1), (2, .int x2)]) hx hb dX8_liars_3 hl (by decide) rfl (fun ls hl => ?_)
  exact bkX8_liars_5L fu _ _ _ _ _ hB p e s0 m below meth c A E H locs ls hP hD hS (lv_sub hl [2, 3, 4, 1, 0] rfl)
theorem ckX8_liars {l : Launch} {dC : Nat → ClassId} {dI : Nat → Nat → Nat} {cB cI cJ cZ cS : ClassId} {a : Nat → Nat} {r : Int32} {s' : KS} {s : KS} {x1 : Int32} {x2 : Int32} (hB : kX8_liars s x1 x2 = some (r, s')) : CI l yX8_liars wsX8_liars ({ frames := 2, cells := 0, slots := 0, locals := 50 }) (dC, dI) (tysA cB cI cJ cZ cS) (wK cB cI cJ cZ cS a s) [.ref (a 41), .int x1, .int x2] (fun x u => x = r ∧ u = (wK cB cI cJ cZ cS a s')) :=
  CI_of (cc := cX8_liars) (maxL := 7) (ret := (some .int)) (by decide) rfl (Nat.le_of_ble_eq_true rfl) (bkX8_liars _ _ _ hB)
