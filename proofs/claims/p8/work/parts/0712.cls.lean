theorem ggX1_valueOf_X1_partValue : GoodIn wsX1_valueOf wsX1_partValue := gi_sub (fun w h => List.mem_cons_of_mem _ (List.mem_append_left _ (List.mem_append_right _ h))) gd_wsX1_partValue
set_option maxRecDepth 20000 in
theorem gX1_valueOf_X1_partValue : GoodIn wsX1_valueOf (wsV RX1 67 RX1 yX1_partValue wsX1_partValue) := goodIn_app (goodIn_r _ [3, 4, 5, 6] (by decide +kernel) (by decide +kernel)) ggX1_valueOf_X1_partValue
theorem dX1_valueOf_0 : decode cX1_valueOf 0 = .ok (.aload_n 0, 1) := dc1_42 (by decide +kernel)
theorem dX1_valueOf_1 : decode cX1_valueOf 1 = .ok (.iconst 0, 1) := dc1_3 (by decide +kernel)
theorem dX1_valueOf_2 : decode cX1_valueOf 2 = .ok (.putfield 63, 3) := dcw_181 (by decide +kernel)
theorem dX1_valueOf_5 : decode cX1_valueOf 5 = .ok (.aload_n 0, 1) := dc1_42 (by decide +kernel)
theorem dX1_valueOf_6 : decode cX1_valueOf 6 = .ok (.getfield 25, 3) := dcw_180 (by decide +kernel)
theorem dX1_valueOf_9 : decode cX1_valueOf 9 = .ok (.iload_n 1, 1) := dc1_27 (by decide +kernel)
theorem dX1_valueOf_10 : decode cX1_valueOf 10 = .ok (.iaload, 1) := dc1_46 (by decide +kernel)
theorem dX1_valueOf_11 : decode cX1_valueOf 11 = .ok (.iconst 1, 1) := dc1_4 (by decide +kernel)
theorem dX1_valueOf_12 : decode cX1_valueOf 12 = .ok (.isub, 1) := dc1_100 (by decide +kernel)
theorem dX1_valueOf_13 : decode cX1_valueOf 13 = .ok (.istore_n 2, 1) := dc1_61 (by decide +kernel)
theorem dX1_valueOf_14 : decode cX1_valueOf 14 = .ok (.iload_n 2, 1) := dc1_28 (by decide +kernel)
theorem dX1_valueOf_15 : decode cX1_valueOf 15 = .ok (.istore_n 3, 1) := dc1_62 (by decide +kernel)
theorem dX1_valueOf_16 : decode cX1_valueOf 16 = .ok (.iconst 0, 1) := dc1_3 (by decide +kernel)
theorem dX1_valueOf_17 : decode cX1_valueOf 17 = .ok (.istore 4, 2) := dcu_54 (by decide +kernel)
theorem dX1_valueOf_19 : decode cX1_valueOf 19 = .ok (.iload 4, 2) := dcu_21 (by decide +kernel)
theorem dX1_valueOf_21 : decode cX1_valueOf 21 = .ok (.iconst 2, 1) := dc1_5 (by decide +kernel)
theorem dX1_valueOf_22 : decode cX1_valueOf 22 = .ok (.iadd, 1) := dc1_96 (by decide +kernel)
theorem dX1_valueOf_23 : decode cX1_valueOf 23 = .ok (.iload_n 2, 1) := dc1_28 (by decide +kernel)
theorem dX1_valueOf_24 : decode cX1_valueOf 24 = .ok (.if_icmp .ge 53, 3) := dcs_162 (n := 53) (by decide +kernel)
theorem dX1_valueOf_27 : decode cX1_valueOf 27 = .ok (.aload_n 0, 1) := dc1_42 (by decide +kernel)
theorem dX1_valueOf_28 : decode cX1_valueOf 28 = .ok (.iload_n 1, 1) := dc1_27 (by decide +kernel)
theorem dX1_valueOf_29 : decode cX1_valueOf 29 = .ok (.iload 4, 2) := dcu_21 (by decide +kernel)
theorem dX1_valueOf_31 : decode cX1_valueOf 31 = .ok (.invokevirtual 67, 3) := dcw_182 (by decide +kernel)
theorem dX1_valueOf_34 : decode cX1_valueOf 34 = .ok (.istore 5, 2) := dcu_54 (by decide +kernel)
theorem dX1_valueOf_36 : decode cX1_valueOf 36 = .ok (.aload_n 0, 1) := dc1_42 (by decide +kernel)
theorem dX1_valueOf_37 : decode cX1_valueOf 37 = .ok (.iload_n 1, 1) := dc1_27 (by decide +kernel)
theorem dX1_valueOf_38 : decode cX1_valueOf 38 = .ok (.iload 4, 2) := dcu_21 (by decide +kernel)
theorem dX1_valueOf_40 : decode cX1_valueOf 40 = .ok (.iconst 1, 1) := dc1_4 (by decide +kernel)
theorem dX1_valueOf_41 : decode cX1_valueOf 41 = .ok (.iadd, 1) := dc1_96 (by decide +kernel)
theorem dX1_valueOf_42 : decode cX1_valueOf 42 = .ok (.invokevirtual 67, 3) := dcw_182 (by decide +kernel)
theorem dX1_valueOf_45 : decode cX1_valueOf 45 = .ok (.istore 6, 2) := dcu_54 (by decide +kernel)
theorem dX1_valueOf_47 : decode cX1_valueOf 47 = .ok (.aload_n 0, 1) := dc1_42 (by decide +kernel)
theorem dX1_valueOf_48 : decode cX1_valueOf 48 = .ok (.getfield 63, 3) := dcw_180 (by decide +kernel)
theorem dX1_valueOf_51 : decode cX1_valueOf 51 = .ok (.ifCond .eq 5, 3) := dcs_153 (n := 5) (by decide +kernel)
theorem dX1_valueOf_54 : decode cX1_valueOf 54 = .ok (.iconst 0, 1) := dc1_3 (by decide +kernel)
theorem dX1_valueOf_55 : decode cX1_valueOf 55 = .ok (.ireturn, 1) := dc1_172 (by decide +kernel)
theorem dX1_valueOf_56 : decode cX1_valueOf 56 = .ok (.iload 5, 2) := dcu_21 (by decide +kernel)
theorem dX1_valueOf_58 : decode cX1_valueOf 58 = .ok (.iload 6, 2) := dcu_21 (by decide +kernel)
theorem dX1_valueOf_60 : decode cX1_valueOf 60 = .ok (.if_icmp .ge 11, 3) := dcs_162 (n := 11) (by decide +kernel)
theorem dX1_valueOf_63 : decode cX1_valueOf 63 = .ok (.iload 4, 2) := dcu_21 (by decide +kernel)
theorem dX1_valueOf_65 : decode cX1_valueOf 65 = .ok (.iconst 2, 1) := dc1_5 (by decide +kernel)
theorem dX1_valueOf_66 : decode cX1_valueOf 66 = .ok (.iadd, 1) := dc1_96 (by decide +kernel)
theorem dX1_valueOf_67 : decode cX1_valueOf 67 = .ok (.istore_n 3, 1) := dc1_62 (by decide +kernel)
theorem dX1_valueOf_68 : decode cX1_valueOf 68 = .ok (.goto 9, 3) := dcs_167 (n := 9) (by decide +kernel)
theorem dX1_valueOf_71 : decode cX1_valueOf 71 = .ok (.iinc 4 3, 3) := dc_iinc (m := 3) (by decide +kernel)
theorem dX1_valueOf_74 : decode cX1_valueOf 74 = .ok (.goto (-55), 3) := dcs_167 (n := 65481) (by decide +kernel)
theorem dX1_valueOf_77 : decode cX1_valueOf 77 = .ok (.aload_n 0, 1) := dc1_42 (by decide +kernel)
theorem dX1_valueOf_78 : decode cX1_valueOf 78 = .ok (.iload_n 1, 1) := dc1_27 (by decide +kernel)
theorem dX1_valueOf_79 : decode cX1_valueOf 79 = .ok (.iload_n 3, 1) := dc1_29 (by decide +kernel)
theorem dX1_valueOf_80 : decode cX1_valueOf 80 = .ok (.invokevirtual 67, 3) := dcw_182 (by decide +kernel)
theorem dX1_valueOf_83 : decode cX1_valueOf 83 = .ok (.istore 4, 2) := dcu_54 (by decide +kernel)
theorem dX1_valueOf_85 : decode cX1_valueOf 85 = .ok (.aload_n 0, 1) := dc1_42 (by decide +kernel)
theorem dX1_valueOf_86 : decode cX1_valueOf 86 = .ok (.getfield 63, 3) := dcw_180 (by decide +kernel)
theorem dX1_valueOf_89 : decode cX1_valueOf 89 = .ok (.ifCond .eq 7, 3) := dcs_153 (n := 7) (by decide +kernel)
theorem dX1_valueOf_92 : decode cX1_valueOf 92 = .ok (.iconst 0, 1) := dc1_3 (by decide +kernel)
theorem dX1_valueOf_93 : decode cX1_valueOf 93 = .ok (.goto 5, 3) := dcs_167 (n := 5) (by decide +kernel)
theorem dX1_valueOf_96 : decode cX1_valueOf 96 = .ok (.iload 4, 2) := dcu_21 (by decide +kernel)
theorem dX1_valueOf_98 : decode cX1_valueOf 98 = .ok (.ireturn, 1) := dc1_172 (by decide +kernel)
theorem ggX2_oddsOfAll_X2_oddsIfMay : GoodIn wsX2_oddsOfAll wsX2_oddsIfMay := gi_sub (fun w h => List.mem_cons_of_mem _ (List.mem_append_left _ (List.mem_append_left _ (List.mem_append_left _ (List.mem_append_left _ (List.mem_append_right _ h)))))) gd_wsX2_oddsIfMay
set_option maxRecDepth 20000 in
theorem gX2_oddsOfAll_X2_oddsIfMay : GoodIn wsX2_oddsOfAll (wsV RX2 53 RX2 yX2_oddsIfMay wsX2_oddsIfMay) := goodIn_app (goodIn_r _ [2, 3, 4, 5] (by decide +kernel) (by decide +kernel)) ggX2_oddsOfAll_X2_oddsIfMay
theorem dX2_oddsOfAll_0 : decode cX2_oddsOfAll 0 = .ok (.iconst 1, 1) := dc1_4 (by decide +kernel)
theorem dX2_oddsOfAll_1 : decode cX2_oddsOfAll 1 = .ok (.istore_n 3, 1) := dc1_62 (by decide +kernel)
theorem dX2_oddsOfAll_2 : decode cX2_oddsOfAll 2 = .ok (.iconst 0, 1) := dc1_3 (by decide +kernel)
theorem dX2_oddsOfAll_3 : decode cX2_oddsOfAll 3 = .ok (.istore 4, 2) := dcu_54 (by decide +kernel)
theorem dX2_oddsOfAll_5 : decode cX2_oddsOfAll 5 = .ok (.iload 4, 2) := dcu_21 (by decide +kernel)
theorem dX2_oddsOfAll_7 : decode cX2_oddsOfAll 7 = .ok (.aload_n 0, 1) := dc1_42 (by decide +kernel)
theorem dX2_oddsOfAll_8 : decode cX2_oddsOfAll 8 = .ok (.getfield 24, 3) := dcw_180 (by decide +kernel)
theorem dX2_oddsOfAll_11 : decode cX2_oddsOfAll 11 = .ok (.getfield 44, 3) := dcw_180 (by decide +kernel)
theorem dX2_oddsOfAll_14 : decode cX2_oddsOfAll 14 = .ok (.if_icmp .ge 53, 3) := dcs_162 (n := 53) (by decide +kernel)
theorem dX2_oddsOfAll_17 : decode cX2_oddsOfAll 17 = .ok (.iload 4, 2) := dcu_21 (by decide +kernel)
theorem dX2_oddsOfAll_19 : decode cX2_oddsOfAll 19 = .ok (.iload_n 2, 1) := dc1_28 (by decide +kernel)
theorem dX2_oddsOfAll_20 : decode cX2_oddsOfAll 20 = .ok (.if_icmp .eq 41, 3) := dcs_159 (n := 41) (by decide +kernel)
theorem dX2_oddsOfAll_23 : decode cX2_oddsOfAll 23 = .ok (.iconst 0, 1) := dc1_3 (by decide +kernel)
theorem dX2_oddsOfAll_24 : decode cX2_oddsOfAll 24 = .ok (.istore 5, 2) := dcu_54 (by decide +kernel)
theorem dX2_oddsOfAll_26 : decode cX2_oddsOfAll 26 = .ok (.iconst 0, 1) := dc1_3 (by decide +kernel)
theorem dX2_oddsOfAll_27 : decode cX2_oddsOfAll 27 = .ok (.istore 6, 2) := dcu_54 (by decide +kernel)
theorem dX2_oddsOfAll_29 : decode cX2_oddsOfAll 29 = .ok (.iload 6, 2) := dcu_21 (by decide +kernel)
theorem dX2_oddsOfAll_31 : decode cX2_oddsOfAll 31 = .ok (.bipush 6, 2) := dcb_16 (n := 6) (by decide +kernel)
theorem dX2_oddsOfAll_33 : decode cX2_oddsOfAll 33 = .ok (.if_icmp .ge 23, 3) := dcs_162 (n := 23) (by decide +kernel)
theorem dX2_oddsOfAll_36 : decode cX2_oddsOfAll 36 = .ok (.iload 5, 2) := dcu_21 (by decide +kernel)
theorem dX2_oddsOfAll_38 : decode cX2_oddsOfAll 38 = .ok (.aload_n 0, 1) := dc1_42 (by decide +kernel)
theorem dX2_oddsOfAll_39 : decode cX2_oddsOfAll 39 = .ok (.aload_n 1, 1) := dc1_43 (by decide +kernel)
theorem dX2_oddsOfAll_40 : decode cX2_oddsOfAll 40 = .ok (.iload 4, 2) := dcu_21 (by decide +kernel)
theorem dX2_oddsOfAll_42 : decode cX2_oddsOfAll 42 = .ok (.iload 6, 2) := dcu_21 (by decide +kernel)
theorem dX2_oddsOfAll_44 : decode cX2_oddsOfAll 44 = .ok (.invokevirtual 53, 3) := dcw_182 (by decide +kernel)
theorem dX2_oddsOfAll_47 : decode cX2_oddsOfAll 47 = .ok (.iadd, 1) := dc1_96 (by decide +kernel)
theorem dX2_oddsOfAll_48 : decode cX2_oddsOfAll 48 = .ok (.istore 5, 2) := dcu_54 (by decide +kernel)
theorem dX2_oddsOfAll_50 : decode cX2_oddsOfAll 50 = .ok (.iinc 6 1, 3) := dc_iinc (m := 1) (by decide +kernel)
theorem dX2_oddsOfAll_53 : decode cX2_oddsOfAll 53 = .ok (.goto (-24), 3) := dcs_167 (n := 65512) (by decide +kernel)
theorem dX2_oddsOfAll_56 : decode cX2_oddsOfAll 56 = .ok (.iload_n 3, 1) := dc1_29 (by decide +kernel)
theorem dX2_oddsOfAll_57 : decode cX2_oddsOfAll 57 = .ok (.iload 5, 2) := dcu_21 (by decide +kernel)
theorem dX2_oddsOfAll_59 : decode cX2_oddsOfAll 59 = .ok (.imul, 1) := dc1_104 (by decide +kernel)
theorem dX2_oddsOfAll_60 : decode cX2_oddsOfAll 60 = .ok (.istore_n 3, 1) := dc1_62 (by decide +kernel)
theorem dX2_oddsOfAll_61 : decode cX2_oddsOfAll 61 = .ok (.iinc 4 1, 3) := dc_iinc (m := 1) (by decide +kernel)
theorem dX2_oddsOfAll_64 : decode cX2_oddsOfAll 64 = .ok (.goto (-59), 3) := dcs_167 (n := 65477) (by decide +kernel)
theorem dX2_oddsOfAll_67 : decode cX2_oddsOfAll 67 = .ok (.iload_n 3, 1) := dc1_29 (by decide +kernel)
theorem dX2_oddsOfAll_68 : decode cX2_oddsOfAll 68 = .ok (.ireturn, 1) := dc1_172 (by decide +kernel)
theorem ggX5_clear_X1_clear : GoodIn wsX5_clear wsX1_clear := gi_sub (fun w h => List.mem_cons_of_mem _ (List.mem_append_left _ (List.mem_append_left _ (List.mem_append_right _ h)))) gd_wsX1_clear
set_option maxRecDepth 20000 in
theorem gX5_clear_X1_clear_n50 : GoodIn wsX5_clear (wsX1_clear) := ggX5_clear_X1_clear
theorem dX5_clear_0 : decode cX5_clear 0 = .ok (.aload_n 0, 1) := dc1_42 (by decide +kernel)
theorem dX5_clear_1 : decode cX5_clear 1 = .ok (.iconst 0, 1) := dc1_3 (by decide +kernel)
theorem dX5_clear_2 : decode cX5_clear 2 = .ok (.putfield 37, 3) := dcw_181 (by decide +kernel)
theorem dX5_clear_5 : decode cX5_clear 5 = .ok (.aload_n 0, 1) := dc1_42 (by decide +kernel)
theorem dX5_clear_6 : decode cX5_clear 6 = .ok (.iconst 0, 1) := dc1_3 (by decide +kernel)
theorem dX5_clear_7 : decode cX5_clear 7 = .ok (.putfield 41, 3) := dcw_181 (by decide +kernel)
theorem dX5_clear_10 : decode cX5_clear 10 = .ok (.aload_n 0, 1) := dc1_42 (by decide +kernel)
theorem dX5_clear_11 : decode cX5_clear 11 = .ok (.iconst 1, 1) := dc1_4 (by decide +kernel)
theorem dX5_clear_12 : decode cX5_clear 12 = .ok (.putfield 44, 3) := dcw_181 (by decide +kernel)
theorem dX5_clear_15 : decode cX5_clear 15 = .ok (.aload_n 0, 1) := dc1_42 (by decide +kernel)
theorem dX5_clear_16 : decode cX5_clear 16 = .ok (.iconst 0, 1) := dc1_3 (by decide +kernel)
theorem dX5_clear_17 : decode cX5_clear 17 = .ok (.putfield 47, 3) := dcw_181 (by decide +kernel)
theorem dX5_clear_20 : decode cX5_clear 20 = .ok (.aload_n 0, 1) := dc1_42 (by decide +kernel)
theorem dX5_clear_21 : decode cX5_clear 21 = .ok (.getfield 30, 3) := dcw_180 (by decide +kernel)
theorem dX5_clear_24 : decode cX5_clear 24 = .ok (.invokevirtual 50, 3) := dcw_182 (by decide +kernel)
theorem dX5_clear_27 : decode cX5_clear 27 = .ok (.return_, 1) := dc1_177 (by decide +kernel)
theorem ggX5_thingThere_X10_lot : GoodIn wsX5_thingThere wsX10_lot := gi_sub (fun w h => List.mem_cons_of_mem _ (List.mem_append_left _ (List.mem_append_right _ (List.mem_append_left _ h)))) gd_wsX10_lot
set_option maxRecDepth 20000 in
theorem gX5_thingThere_X10_lot_n65 : GoodIn wsX5_thingThere (wsX10_lot) := ggX5_thingThere_X10_lot
theorem ggX5_thingThere_X5_oddsAt : GoodIn wsX5_thingThere wsX5_oddsAt := gi_sub (fun w h => List.mem_cons_of_mem _ (List.mem_append_left _ (List.mem_append_right _ (List.mem_append_right _ h)))) gd_wsX5_oddsAt
set_option maxRecDepth 20000 in
theorem gX5_thingThere_X5_oddsAt : GoodIn wsX5_thingThere (wsV RX5 51 RX5 yX5_oddsAt wsX5_oddsAt) := goodIn_app (goodIn_r _ [4, 5, 6, 7] (by decide +kernel) (by decide +kernel)) ggX5_thingThere_X5_oddsAt
theorem dX5_thingThere_0 : decode cX5_thingThere 0 = .ok (.aload_n 0, 1) := dc1_42 (by decide +kernel)
theorem dX5_thingThere_1 : decode cX5_thingThere 1 = .ok (.getfield 15, 3) := dcw_180 (by decide +kernel)
theorem dX5_thingThere_4 : decode cX5_thingThere 4 = .ok (.iload_n 1, 1) := dc1_27 (by decide +kernel)
theorem dX5_thingThere_5 : decode cX5_thingThere 5 = .ok (.iaload, 1) := dc1_46 (by decide +kernel)
theorem dX5_thingThere_6 : decode cX5_thingThere 6 = .ok (.iload_n 3, 1) := dc1_29 (by decide +kernel)
theorem dX5_thingThere_7 : decode cX5_thingThere 7 = .ok (.bipush 8, 2) := dcb_16 (n := 8) (by decide +kernel)
theorem dX5_thingThere_9 : decode cX5_thingThere 9 = .ok (.iload_n 2, 1) := dc1_28 (by decide +kernel)
theorem dX5_thingThere_10 : decode cX5_thingThere 10 = .ok (.imul, 1) := dc1_104 (by decide +kernel)
theorem dX5_thingThere_11 : decode cX5_thingThere 11 = .ok (.iload_n 1, 1) := dc1_27 (by decide +kernel)
theorem dX5_thingThere_12 : decode cX5_thingThere 12 = .ok (.iadd, 1) := dc1_96 (by decide +kernel)
theorem dX5_thingThere_13 : decode cX5_thingThere 13 = .ok (.invokestatic 65, 3) := dcw_184 (by decide +kernel)
theorem dX5_thingThere_16 : decode cX5_thingThere 16 = .ok (.istore 4, 2) := dcu_54 (by decide +kernel)
theorem dX5_thingThere_18 : decode cX5_thingThere 18 = .ok (.iconst 0, 1) := dc1_3 (by decide +kernel)
theorem dX5_thingThere_19 : decode cX5_thingThere 19 = .ok (.istore 5, 2) := dcu_54 (by decide +kernel)
theorem dX5_thingThere_21 : decode cX5_thingThere 21 = .ok (.iconst 0, 1) := dc1_3 (by decide +kernel)
theorem dX5_thingThere_22 : decode cX5_thingThere 22 = .ok (.istore 6, 2) := dcu_54 (by decide +kernel)
theorem dX5_thingThere_24 : decode cX5_thingThere 24 = .ok (.iload 6, 2) := dcu_21 (by decide +kernel)
theorem dX5_thingThere_26 : decode cX5_thingThere 26 = .ok (.bipush 6, 2) := dcb_16 (n := 6) (by decide +kernel)
theorem dX5_thingThere_28 : decode cX5_thingThere 28 = .ok (.if_icmp .ge 31, 3) := dcs_162 (n := 31) (by decide +kernel)
theorem dX5_thingThere_31 : decode cX5_thingThere 31 = .ok (.iload 5, 2) := dcu_21 (by decide +kernel)
theorem dX5_thingThere_33 : decode cX5_thingThere 33 = .ok (.aload_n 0, 1) := dc1_42 (by decide +kernel)
theorem dX5_thingThere_34 : decode cX5_thingThere 34 = .ok (.iload_n 1, 1) := dc1_27 (by decide +kernel)
theorem dX5_thingThere_35 : decode cX5_thingThere 35 = .ok (.iload 6, 2) := dcu_21 (by decide +kernel)
theorem dX5_thingThere_37 : decode cX5_thingThere 37 = .ok (.invokevirtual 51, 3) := dcw_182 (by decide +kernel)
theorem dX5_thingThere_40 : decode cX5_thingThere 40 = .ok (.iadd, 1) := dc1_96 (by decide +kernel)
theorem dX5_thingThere_41 : decode cX5_thingThere 41 = .ok (.istore 5, 2) := dcu_54 (by decide +kernel)
theorem dX5_thingThere_43 : decode cX5_thingThere 43 = .ok (.iload 5, 2) := dcu_21 (by decide +kernel)
theorem dX5_thingThere_45 : decode cX5_thingThere 45 = .ok (.iload 4, 2) := dcu_21 (by decide +kernel)
theorem dX5_thingThere_47 : decode cX5_thingThere 47 = .ok (.if_icmp .le 6, 3) := dcs_164 (n := 6) (by decide +kernel)
theorem dX5_thingThere_50 : decode cX5_thingThere 50 = .ok (.iload 6, 2) := dcu_21 (by decide +kernel)
theorem dX5_thingThere_52 : decode cX5_thingThere 52 = .ok (.ireturn, 1) := dc1_172 (by decide +kernel)
theorem dX5_thingThere_53 : decode cX5_thingThere 53 = .ok (.iinc 6 1, 3) := dc_iinc (m := 1) (by decide +kernel)
theorem dX5_thingThere_56 : decode cX5_thingThere 56 = .ok (.goto (-32), 3) := dcs_167 (n := 65504) (by decide +kernel)
theorem dX5_thingThere_59 : decode cX5_thingThere 59 = .ok (.iconst 5, 1) := dc1_8 (by decide +kernel)
theorem dX5_thingThere_60 : decode cX5_thingThere 60 = .ok (.ireturn, 1) := dc1_172 (by decide +kernel)
theorem ggX8_believe_X0_mayBe : GoodIn wsX8_believe wsX0_mayBe := gi_sub (fun w h => List.mem_cons_of_mem _ (List.mem_append_left _ (List.mem_append_left _ (List.mem_append_left _ (List.mem_append_left _ (List.mem_append_right _ (List.mem_append_left _ h))))))) gd_wsX0_mayBe
set_option maxRecDepth 20000 in
theorem gX8_believe_X0_mayBe_n44 : GoodIn wsX8_believe (wsX0_mayBe) := ggX8_believe_X0_mayBe
theorem ggX8_believe_X10_has : GoodIn wsX8_believe wsX10_has := gi_sub (fun w h => List.mem_cons_of_mem _ (List.mem_append_left _ (List.mem_append_left _ (List.mem_append_left _ (List.mem_append_left _ (List.mem_append_right _ (List.mem_append_right _ (List.mem_append_left _ h)))))))) gd_wsX10_has
set_option maxRecDepth 20000 in
theorem gX8_believe_X10_has_n50 : GoodIn wsX8_believe (wsX10_has) := ggX8_believe_X10_has
theorem ggX8_believe_X5_oddsAt : GoodIn wsX8_believe wsX5_oddsAt := gi_sub (fun w h => List.mem_cons_of_mem _ (List.mem_append_left _ (List.mem_append_left _ (List.mem_append_left _ (List.mem_append_left _ (List.mem_append_right _ (List.mem_append_right _ (List.mem_append_right _ (List.mem_append_left _ h))))))))) gd_wsX5_oddsAt
set_option maxRecDepth 20000 in
theorem gX8_believe_X5_oddsAt_n54 : GoodIn wsX8_believe (wsX5_oddsAt) := ggX8_believe_X5_oddsAt
theorem ggX8_believe_X8_beliedBy : GoodIn wsX8_believe wsX8_beliedBy := gi_sub (fun w h => List.mem_cons_of_mem _ (List.mem_append_left _ (List.mem_append_left _ (List.mem_append_left _ (List.mem_append_left _ (List.mem_append_right _ (List.mem_append_right _ (List.mem_append_right _ (List.mem_append_right _ h))))))))) gd_wsX8_beliedBy
set_option maxRecDepth 20000 in
theorem gX8_believe_X8_beliedBy : GoodIn wsX8_believe (wsV RX8 58 RX8 yX8_beliedBy wsX8_beliedBy) := goodIn_app (goodIn_r _ [13, 14, 15, 16] (by decide +kernel) (by decide +kernel)) ggX8_believe_X8_beliedBy
theorem dX8_believe_0 : decode cX8_believe 0 = .ok (.iconst 0, 1) := dc1_3 (by decide +kernel)
theorem dX8_believe_1 : decode cX8_believe 1 = .ok (.istore_n 3, 1) := dc1_62 (by decide +kernel)
theorem dX8_believe_2 : decode cX8_believe 2 = .ok (.iload_n 3, 1) := dc1_29 (by decide +kernel)
theorem dX8_believe_3 : decode cX8_believe 3 = .ok (.aload_n 0, 1) := dc1_42 (by decide +kernel)
theorem dX8_believe_4 : decode cX8_believe 4 = .ok (.getfield 27, 3) := dcw_180 (by decide +kernel)
theorem dX8_believe_7 : decode cX8_believe 7 = .ok (.getfield 39, 3) := dcw_180 (by decide +kernel)
theorem dX8_believe_10 : decode cX8_believe 10 = .ok (.if_icmp .ge 91, 3) := dcs_162 (n := 91) (by decide +kernel)
theorem dX8_believe_13 : decode cX8_believe 13 = .ok (.aload_n 0, 1) := dc1_42 (by decide +kernel)
theorem dX8_believe_14 : decode cX8_believe 14 = .ok (.getfield 31, 3) := dcw_180 (by decide +kernel)
theorem dX8_believe_17 : decode cX8_believe 17 = .ok (.aload_n 1, 1) := dc1_43 (by decide +kernel)
theorem dX8_believe_18 : decode cX8_believe 18 = .ok (.iload_n 3, 1) := dc1_29 (by decide +kernel)
theorem dX8_believe_19 : decode cX8_believe 19 = .ok (.invokevirtual 44, 3) := dcw_182 (by decide +kernel)
theorem dX8_believe_22 : decode cX8_believe 22 = .ok (.istore 4, 2) := dcu_54 (by decide +kernel)
theorem dX8_believe_24 : decode cX8_believe 24 = .ok (.iconst 0, 1) := dc1_3 (by decide +kernel)
theorem dX8_believe_25 : decode cX8_believe 25 = .ok (.istore 5, 2) := dcu_54 (by decide +kernel)
theorem dX8_believe_27 : decode cX8_believe 27 = .ok (.iload 5, 2) := dcu_21 (by decide +kernel)
theorem dX8_believe_29 : decode cX8_believe 29 = .ok (.bipush 6, 2) := dcb_16 (n := 6) (by decide +kernel)
theorem dX8_believe_31 : decode cX8_believe 31 = .ok (.if_icmp .ge 64, 3) := dcs_162 (n := 64) (by decide +kernel)
theorem dX8_believe_34 : decode cX8_believe 34 = .ok (.iload_n 3, 1) := dc1_29 (by decide +kernel)
theorem dX8_believe_35 : decode cX8_believe 35 = .ok (.bipush 6, 2) := dcb_16 (n := 6) (by decide +kernel)
theorem dX8_believe_37 : decode cX8_believe 37 = .ok (.imul, 1) := dc1_104 (by decide +kernel)
theorem dX8_believe_38 : decode cX8_believe 38 = .ok (.iload 5, 2) := dcu_21 (by decide +kernel)
theorem dX8_believe_40 : decode cX8_believe 40 = .ok (.iadd, 1) := dc1_96 (by decide +kernel)
theorem dX8_believe_41 : decode cX8_believe 41 = .ok (.istore 6, 2) := dcu_54 (by decide +kernel)
theorem dX8_believe_43 : decode cX8_believe 43 = .ok (.aload_n 0, 1) := dc1_42 (by decide +kernel)
theorem dX8_believe_44 : decode cX8_believe 44 = .ok (.getfield 18, 3) := dcw_180 (by decide +kernel)
theorem dX8_believe_47 : decode cX8_believe 47 = .ok (.iload 6, 2) := dcu_21 (by decide +kernel)
theorem dX8_believe_49 : decode cX8_believe 49 = .ok (.iload 4, 2) := dcu_21 (by decide +kernel)
theorem dX8_believe_51 : decode cX8_believe 51 = .ok (.iload 5, 2) := dcu_21 (by decide +kernel)
theorem dX8_believe_53 : decode cX8_believe 53 = .ok (.invokestatic 50, 3) := dcw_184 (by decide +kernel)
theorem dX8_believe_56 : decode cX8_believe 56 = .ok (.ifCond .eq 16, 3) := dcs_153 (n := 16) (by decide +kernel)
theorem dX8_believe_59 : decode cX8_believe 59 = .ok (.aload_n 0, 1) := dc1_42 (by decide +kernel)
theorem dX8_believe_60 : decode cX8_believe 60 = .ok (.getfield 27, 3) := dcw_180 (by decide +kernel)
theorem dX8_believe_63 : decode cX8_believe 63 = .ok (.iload_n 3, 1) := dc1_29 (by decide +kernel)
theorem dX8_believe_64 : decode cX8_believe 64 = .ok (.iload 5, 2) := dcu_21 (by decide +kernel)
theorem dX8_believe_66 : decode cX8_believe 66 = .ok (.invokevirtual 54, 3) := dcw_182 (by decide +kernel)
theorem dX8_believe_69 : decode cX8_believe 69 = .ok (.goto 4, 3) := dcs_167 (n := 4) (by decide +kernel)
theorem dX8_believe_72 : decode cX8_believe 72 = .ok (.iconst 0, 1) := dc1_3 (by decide +kernel)
theorem dX8_believe_73 : decode cX8_believe 73 = .ok (.iastore, 1) := dc1_79 (by decide +kernel)
theorem dX8_believe_74 : decode cX8_believe 74 = .ok (.aload_n 0, 1) := dc1_42 (by decide +kernel)
theorem dX8_believe_75 : decode cX8_believe 75 = .ok (.getfield 21, 3) := dcw_180 (by decide +kernel)
theorem dX8_believe_78 : decode cX8_believe 78 = .ok (.iload 6, 2) := dcu_21 (by decide +kernel)
theorem dX8_believe_80 : decode cX8_believe 80 = .ok (.aload_n 0, 1) := dc1_42 (by decide +kernel)
theorem dX8_believe_81 : decode cX8_believe 81 = .ok (.iload_n 3, 1) := dc1_29 (by decide +kernel)
theorem dX8_believe_82 : decode cX8_believe 82 = .ok (.iload 5, 2) := dcu_21 (by decide +kernel)
theorem dX8_believe_84 : decode cX8_believe 84 = .ok (.iload_n 2, 1) := dc1_28 (by decide +kernel)
theorem dX8_believe_85 : decode cX8_believe 85 = .ok (.invokevirtual 58, 3) := dcw_182 (by decide +kernel)
theorem dX8_believe_88 : decode cX8_believe 88 = .ok (.iastore, 1) := dc1_79 (by decide +kernel)
theorem dX8_believe_89 : decode cX8_believe 89 = .ok (.iinc 5 1, 3) := dc_iinc (m := 1) (by decide +kernel)
theorem dX8_believe_92 : decode cX8_believe 92 = .ok (.goto (-65), 3) := dcs_167 (n := 65471) (by decide +kernel)
theorem dX8_believe_95 : decode cX8_believe 95 = .ok (.iinc 3 1, 3) := dc_iinc (m := 1) (by decide +kernel)
theorem dX8_believe_98 : decode cX8_believe 98 = .ok (.goto (-96), 3) := dcs_167 (n := 65440) (by decide +kernel)
theorem dX8_believe_101 : decode cX8_believe 101 = .ok (.return_, 1) := dc1_177 (by decide +kernel)
theorem ggX10_all_X2_oddsOfAll : GoodIn wsX10_all wsX2_oddsOfAll := gi_sub (fun w h => List.mem_cons_of_mem _ (List.mem_append_left _ (List.mem_append_left _ (List.mem_append_left _ (List.mem_append_left _ (List.mem_append_left _ (List.mem_append_right _ h))))))) gd_wsX2_oddsOfAll
set_option maxRecDepth 20000 in
theorem gX10_all_X2_oddsOfAll_n203 : GoodIn wsX10_all (wsX2_oddsOfAll) := ggX10_all_X2_oddsOfAll
theorem dX10_all_0 : decode cX10_all 0 = .ok (.aload_n 0, 1) := dc1_42 (by decide +kernel)
theorem dX10_all_1 : decode cX10_all 1 = .ok (.getfield 63, 3) := dcw_180 (by decide +kernel)
theorem dX10_all_4 : decode cX10_all 4 = .ok (.aload_n 0, 1) := dc1_42 (by decide +kernel)
theorem dX10_all_5 : decode cX10_all 5 = .ok (.getfield 35, 3) := dcw_180 (by decide +kernel)
theorem dX10_all_8 : decode cX10_all 8 = .ok (.iconst (-1), 1) := dc1_2 (by decide +kernel)
theorem dX10_all_9 : decode cX10_all 9 = .ok (.invokevirtual 203, 3) := dcw_182 (by decide +kernel)
theorem dX10_all_12 : decode cX10_all 12 = .ok (.ireturn, 1) := dc1_172 (by decide +kernel)
theorem LX1_valueOf_25 : Cond.fieldLink RX1 25 "GuessFerry$Laws" "partCounts" "[I" ∈ wsX1_valueOf := by decide +kernel
theorem LX1_valueOf_63 : Cond.fieldLink RX1 63 "GuessFerry$Laws" "isByZero" "Z" ∈ wsX1_valueOf := by decide +kernel
theorem inX1_valueOf_X1 : ∀ w ∈ u_ws RX1 TX1 9, w ∈ wsX1_valueOf := by decide +kernel
set_option maxHeartbeats 4000000 in
set_option maxRecDepth 100000 in
theorem bkX1_valueOf_77 {l : Launch} {dC : Nat → ClassId} {dI : Nat → Nat → Nat} {cB cI cJ cZ cS : ClassId} {a : Nat → Nat} {as : List Value} {r : Int32} {s' : KS} (s : KS) (x1 : Int32) (x3 : Int32) (hB : kX1_valueOf_77 s x1 x3 = some (r, s')) : BlkI l yX1_valueOf wsX1_valueOf ({ frames := 2, cells := 0, slots := 0, locals := 50 }) cX1_valueOf 7 (some .int) (dC, dI) (tysA cB cI cJ cZ cS) as 77 (wK cB cI cJ cZ cS a s) [(0, .ref (a 8)), (1, .int x1), (3, .int x3)] [] (fun x u => x = r ∧ u = (wK cB cI cJ cZ cS a s')) := by
  intro p e s0 m below meth c A E H locs ls hP hD hS hl
  obtain ⟨C, hr, hlocks, hA, hK, hN⟩ := id E
  obtain ⟨hx, hb, hml, hown, hts⟩ := id C
  unfold kX1_valueOf_77 at hB
  refine lv_aload_n hx hb dX1_valueOf_77 rfl (lv_at hl 0 rfl) ?_
  refine lv_iload_n hx hb dX1_valueOf_78 rfl (lv_at hl 1 rfl) ?_
  refine lv_iload_n hx hb dX1_valueOf_79 rfl (lv_at hl 2 rfl) ?_
  obtain ⟨q_, s1, hc, hB⟩ := bindI_inv hB
  refine q_goiF (va_runV (As := [.int x1, .int x3]) (rest := []) C (ckX1_partValue hc _) (cwV 2 hts gX1_valueOf_X1_partValue rfl rfl rfl (by decide +kernel) ⟨Nat.le_of_ble_eq_true rfl, Nat.le_of_ble_eq_true rfl⟩) (q_preV hK hP (ci := 1) (q0 := 8) rfl rfl rfl (q_preF hN hK hP hD)) rfl rfl hl.1 rfl (lv_room (Nat.le_of_ble_eq_true rfl)) dX1_valueOf_80 ⟨Nat.le_of_ble_eq_true rfl, Nat.le_of_ble_eq_true rfl⟩) hD hS hA (fun r2 w1 H locs hw hP hD hS => ?_)
  obtain ⟨hq_, hw⟩ := hw; subst hw; subst hq_
  refine lv_istore (lv' := [(4, .int r2), (0, .ref (a 8)), (1, .int x1), (3, .int x3)]) hx hb dX1_valueOf_83 hl (by decide) rfl (fun ls hl => ?_)
  refine lv_aload_n hx hb dX1_valueOf_85 rfl (lv_at hl 1 rfl) ?_
  refine q_get (v := .int (s1.v 7)) C inX1_valueOf_X1 hK hP 8 rfl rfl 8 (by decide) rfl LX1_valueOf_63 rfl dX1_valueOf_86 ?_
  refine lv_if_eq (tgt := 96) hx hb dX1_valueOf_89 (by decide) (fun c3 => ?_) (fun c3 => ?_)
  · have hB := if_p hB c3
    refine lv_iload hx hb dX1_valueOf_96 (lv_at hl 0 rfl) ?_
    exact q_iret C hr hlocks hK hP hD hS (Nat.le_of_ble_eq_true rfl) (Nat.le_of_ble_eq_true rfl) dX1_valueOf_98 (by cases hB; exact ⟨rfl, rfl⟩)
  · have hB := if_n hB c3
    refine lv_iconst (v := 0) hx hb dX1_valueOf_92 (by decide) ?_
    refine lv_goto (tgt := 98) hx hb dX1_valueOf_93 (by decide) ?_
    exact q_iret C hr hlocks hK hP hD hS (Nat.le_of_ble_eq_true rfl) (Nat.le_of_ble_eq_true rfl) dX1_valueOf_98 (by cases hB; exact ⟨rfl, rfl⟩)
set_option maxHeartbeats 4000000 in
set_option maxRecDepth 100000 in
theorem bkX1_valueOf_19 {l : Launch} {dC : Nat → ClassId} {dI : Nat → Nat → Nat} {cB cI cJ cZ cS : ClassId} {a : Nat → Nat} {as : List Value} {r : Int32} {s' : KS} {k19 : KS → Int32 → Int32 → Int32 → Int32 → Option (Int32 × KS)} (hk19 : ∀ (s : KS) (x1 : Int32) (x2 : Int32) (x3 : Int32) (x4 : Int32), k19 s x1 x2 x3 x4 = some (r, s') → BlkI l yX1_valueOf wsX1_valueOf ({ frames := 2, cells := 0, slots := 0, locals := 50 }) cX1_valueOf 7 (some .int) (dC, dI) (tysA cB cI cJ cZ cS) as 19 (wK cB cI cJ cZ cS a s) [(0, .ref (a 8)), (1, .int x1), (2, .int x2), (3, .int x3), (4, .int x4)] [] (fun x u => x = r ∧ u = (wK cB cI cJ cZ cS a s'))) (s : KS) (x1 : Int32) (x2 : Int32) (x3 : Int32) (x4 : Int32) (hB : kX1_valueOf_19 k19 s x1 x2 x3 x4 = some (r, s')) : BlkI l yX1_valueOf wsX1_valueOf ({ frames := 2, cells := 0, slots := 0, locals := 50 }) cX1_valueOf 7 (some .int) (dC, dI) (tysA cB cI cJ cZ cS) as 19 (wK cB cI cJ cZ cS a s) [(0, .ref (a 8)), (1, .int x1), (2, .int x2), (3, .int x3), (4, .int x4)] [] (fun x u => x = r ∧ u = (wK cB cI cJ cZ cS a s')) := by
  intro p e s0 m below meth c A E H locs ls hP hD hS hl
  obtain ⟨C, hr, hlocks, hA, hK, hN⟩ := id E
  obtain ⟨hx, hb, hml, hown, hts⟩ := id C
  unfold kX1_valueOf_19 at hB
  refine lv_iload hx hb dX1_valueOf_19 (lv_at hl 4 rfl) ?_
  refine lv_iconst (v := 2) hx hb dX1_valueOf_21 (by decide) ?_
  refine lv_iadd hx hb dX1_valueOf_22 ?_
  refine lv_iload_n hx hb dX1_valueOf_23 rfl (lv_at hl 2 rfl) ?_
  refine lv_icmp_ge (tgt := 77) hx hb dX1_valueOf_24 (by decide) (fun c1 => ?_) (fun c1 => ?_)
  · have hB := if_p hB c1
    exact bkX1_valueOf_77 _ _ _ hB p e s0 m below meth c A E H locs ls hP hD hS (lv_sub hl [0, 1, 3] rfl)
  · have hB := if_n hB c1
    refine lv_aload_n hx hb dX1_valueOf_27 rfl (lv_at hl 0 rfl) ?_
    refine lv_iload_n hx hb dX1_valueOf_28 rfl (lv_at hl 1 rfl) ?_
    refine lv_iload hx hb dX1_valueOf_29 (lv_at hl 4 rfl) ?_
    obtain ⟨q_, s2, hc, hB⟩ := bindI_inv hB
    refine q_goiF (va_runV (As := [.int x1, .int x4]) (rest := []) C (ckX1_partValue hc _) (cwV 2 hts gX1_valueOf_X1_partValue rfl rfl rfl (by decide +kernel) ⟨Nat.le_of_ble_eq_true rfl, Nat.le_of_ble_eq_true rfl⟩) (q_preV hK hP (ci := 1) (q0 := 8) rfl rfl rfl (q_preF hN hK hP hD)) rfl rfl hl.1 rfl (lv_room (Nat.le_of_ble_eq_true rfl)) dX1_valueOf_31 ⟨Nat.le_of_ble_eq_true rfl, Nat.le_of_ble_eq_true rfl⟩) hD hS hA (fun r3 w1 H locs hw hP hD hS => ?_)
    obtain ⟨hq_, hw⟩ := hw; subst hw; subst hq_
    refine lv_istore (lv' := [(5, .int r3), (0, .ref (a 8)), (1, .int x1), (2, .int x2), (3, .int x3), (4, .int x4)]) hx hb dX1_valueOf_34 hl (by decide) rfl (fun ls hl => ?_)
    refine lv_aload_n hx hb dX1_valueOf_36 rfl (lv_at hl 1 rfl) ?_
    refine lv_iload_n hx hb dX1_valueOf_37 rfl (lv_at hl 2 rfl) ?_
    refine lv_iload hx hb dX1_valueOf_38 (lv_at hl 5 rfl) ?_
    refine lv_iconst (v := 1) hx hb dX1_valueOf_40 (by decide) ?_
    refine lv_iadd hx hb dX1_valueOf_41 ?_
    obtain ⟨q_, s4, hc, hB⟩ := bindI_inv hB
    refine q_goiF (va_runV (As := [.int x1, .int (x4 + 1)]) (rest := []) C (ckX1_partValue hc _) (cwV 2 hts gX1_valueOf_X1_partValue rfl rfl rfl (by decide +kernel) ⟨Nat.le_of_ble_eq_true rfl, Nat.le_of_ble_eq_true rfl⟩) (q_preV hK hP (ci := 1) (q0 := 8) rfl rfl rfl (q_preF hN hK hP hD)) rfl rfl hl.1 rfl (lv_room (Nat.le_of_ble_eq_true rfl)) dX1_valueOf_42 ⟨Nat.le_of_ble_eq_true rfl, Nat.le_of_ble_eq_true rfl⟩) hD hS hA (fun r5 w1 H locs hw hP hD hS => ?_)
    obtain ⟨hq_, hw⟩ := hw; subst hw; subst hq_
    refine lv_istore (lv' := [(6, .int r5), (5, .int r3), (0, .ref (a 8)), (1, .int x1), (2, .int x2), (3, .int x3), (4, .int x4)]) hx hb dX1_valueOf_45 hl (by decide) rfl (fun ls hl => ?_)
    refine lv_aload_n hx hb dX1_valueOf_47 rfl (lv_at hl 2 rfl) ?_
    refine q_get (v := .int (s4.v 7)) C inX1_valueOf_X1 hK hP 8 rfl rfl 8 (by decide) rfl LX1_valueOf_63 rfl dX1_valueOf_48 ?_
    refine lv_if_eq (tgt := 56) hx hb dX1_valueOf_51 (by decide) (fun c6 => ?_) (fun c6 => ?_)
    · have hB := if_p hB c6
      refine lv_iload hx hb dX1_valueOf_56 (lv_at hl 1 rfl) ?_
      refine lv_iload hx hb dX1_valueOf_58 (lv_at hl 0 rfl) ?_
      refine lv_icmp_ge (tgt := 71) hx hb dX1_valueOf_60 (by decide) (fun c7 => ?_) (fun c7 => ?_)
      · have hB := if_p hB c7
        refine lv_iinc (v := (x4 + 3)) (lv' := [(4, .int (x4 + 3)), (6, .int r5), (5, .int r3), (0, .ref (a 8)), (1, .int x1), (2, .int x2), (3, .int x3)]) hx hb dX1_valueOf_71 hl (k := 6) rfl (rfl) (by decide) rfl (fun ls hl => ?_)
        refine lv_goto (tgt := 19) hx hb dX1_valueOf_74 (by decide) ?_
        exact hk19 _ _ _ _ _ hB p e s0 m below meth c A E H locs ls hP hD hS (lv_sub hl [3, 4, 5, 6, 0] rfl)
      · have hB := if_n hB c7
        refine lv_iload hx hb dX1_valueOf_63 (lv_at hl 6 rfl) ?_
        refine lv_iconst (v := 2) hx hb dX1_valueOf_65 (by decide) ?_
        refine lv_iadd hx hb dX1_valueOf_66 ?_
        refine lv_istore_n (lv' := [(3, .int (x4 + 2)), (6, .int r5), (5, .int r3), (0, .ref (a 8)), (1, .int x1), (2, .int x2), (4, .int x4)]) hx hb dX1_valueOf_67 rfl hl (by decide) rfl (fun ls hl => ?_)
        refine lv_goto (tgt := 77) hx hb dX1_valueOf_68 (by decide) ?_
        exact bkX1_valueOf_77 _ _ _ hB p e s0 m below meth c A E H locs ls hP hD hS (lv_sub hl [3, 4, 0] rfl)
    · have hB := if_n hB c6
      refine lv_iconst (v := 0) hx hb dX1_valueOf_54 (by decide) ?_
      exact q_iret C hr hlocks hK hP hD hS (Nat.le_of_ble_eq_true rfl) (Nat.le_of_ble_eq_true rfl) dX1_valueOf_55 (by cases hB; exact ⟨rfl, rfl⟩)
theorem bkX1_valueOf_19L {l : Launch} {dC : Nat → ClassId} {dI : Nat → Nat → Nat} {cB cI cJ cZ cS : ClassId} {a : Nat → Nat} {as : List Value} {r : Int32} {s' : KS} : ∀ (n : Nat) (s : KS) (x1 : Int32) (x2 : Int32) (x3 : Int32) (x4 : Int32), kX1_valueOf_19L n s x1 x2 x3 x4 = some (r, s') → BlkI l yX1_valueOf wsX1_valueOf ({ frames := 2, cells := 0, slots := 0, locals := 50 }) cX1_valueOf 7 (some .int) (dC, dI) (tysA cB cI cJ cZ cS) as 19 (wK cB cI cJ cZ cS a s) [(0, .ref (a 8)), (1, .int x1), (2, .int x2), (3, .int x3), (4, .int x4)] [] (fun x u => x = r ∧ u = (wK cB cI cJ cZ cS a s')) := by
  intro n
  induction n with
  | zero => intro s x1 x2 x3 x4 hB; exact none_ne hB
  | succ n ih => intro s x1 x2 x3 x4 hB; exact bkX1_valueOf_19 ih _ _ _ _ _ hB
set_option maxHeartbeats 4000000 in
set_option maxRecDepth 100000 in
theorem bkX1_valueOf {l : Launch} {dC : Nat → ClassId} {dI : Nat → Nat → Nat} {cB cI cJ cZ cS : ClassId} {a : Nat → Nat} {as : List Value} {r : Int32} {s' : KS} (s : KS) (x1 : Int32) (hB : kX1_valueOf s x1 = some (r, s')) : BlkI l yX1_valueOf wsX1_valueOf ({ frames := 2, cells := 0, slots := 0, locals := 50 }) cX1_valueOf 7 (some .int) (dC, dI) (tysA cB cI cJ cZ cS) as 0 (wK cB cI cJ cZ cS a s) [(0, .ref (a 8)), (1, .int x1)] [] (fun x u => x = r ∧ u = (wK cB cI cJ cZ cS a s')) := by
  intro p e s0 m below meth c A E H locs ls hP hD hS hl
  obtain ⟨C, hr, hlocks, hA, hK, hN⟩ := id E
  obtain ⟨hx, hb, hml, hown, hts⟩ := id C
  unfold kX1_valueOf at hB
  refine lv_aload_n hx hb dX1_valueOf_0 rfl (lv_at hl 0 rfl) ?_
  refine lv_iconst (v := 0) hx hb dX1_valueOf_1 (by decide) ?_
  obtain ⟨s1, hs2, hB⟩ := letS_inv hB
  refine q_put (ty := .boolean) (w2 := (wK cB cI cJ cZ cS a s1)) tyX1 tyX1_ok nmX1 C inX1_valueOf_X1 hK hP hD hS 8 rfl rfl 8 (by decide) rfl LX1_valueOf_63 rfl (by decide +kernel) (by decide +kernel) rfl (Nat.le_of_ble_eq_true rfl) dX1_valueOf_2 (by subst hs2; rfl) (fun H locs hP hD hS => ?_)
  refine lv_aload_n hx hb dX1_valueOf_5 rfl (lv_at hl 0 rfl) ?_
  refine q_get (v := .ref (a 12)) C inX1_valueOf_X1 hK hP 8 rfl rfl 3 (by decide) rfl LX1_valueOf_25 rfl dX1_valueOf_6 ?_
  refine lv_iload_n hx hb dX1_valueOf_9 rfl (lv_at hl 1 rfl) ?_
  obtain ⟨g3, hB⟩ := guard_inv hB
  refine q_iald (x := ((s1.f 12) (Int32.toNatClampNeg x1))) C hK hP 12 1 rfl rfl (vpb_in g3) dX1_valueOf_10 rfl ?_
  refine lv_iconst (v := 1) hx hb dX1_valueOf_11 (by decide) ?_
  refine lv_isub hx hb dX1_valueOf_12 ?_
  refine lv_istore_n (lv' := [(2, .int (((s1.f 12) (Int32.toNatClampNeg x1)) - 1)), (0, .ref (a 8)), (1, .int x1)]) hx hb dX1_valueOf_13 rfl hl (by decide) rfl (fun ls hl => ?_)
  refine lv_iload_n hx hb dX1_valueOf_14 rfl (lv_at hl 0 rfl) ?_
  refine lv_istore_n (lv' := [(3, .int (((s1.f 12) (Int32.toNatClampNeg x1)) - 1)), (2, .int (((s1.f 12) (Int32.toNatClampNeg x1)) - 1)), (0, .ref (a 8)), (1, .int x1)]) hx hb dX1_valueOf_15 rfl hl (by decide) rfl (fun ls hl => ?_)
  refine lv_iconst (v := 0) hx hb dX1_valueOf_16 (by decide) ?_
  refine lv_istore (lv' := [(4, .int 0), (3, .int (((s1.f 12) (Int32.toNatClampNeg x1)) - 1)), (2, .int (((s1.f 12) (Int32.toNatClampNeg x1)) - 1)), (0, .ref (a 8)), (1, .int x1)]) hx hb dX1_valueOf_17 hl (by decide) rfl (fun ls hl => ?_)
  exact bkX1_valueOf_19L fu _ _ _ _ _ hB p e s0 m below meth c A E H locs ls hP hD hS (lv_sub hl [3, 4, 2, 1, 0] rfl)
theorem ckX1_valueOf {l : Launch} {dC : Nat → ClassId} {dI : Nat → Nat → Nat} {cB cI cJ cZ cS : ClassId} {a : Nat → Nat} {r : Int32} {s' : KS} {s : KS} {x1 : Int32} (hB : kX1_valueOf s x1 = some (r, s')) : CI l yX1_valueOf wsX1_valueOf ({ frames := 2, cells := 0, slots := 0, locals := 50 }) (dC, dI) (tysA cB cI cJ cZ cS) (wK cB cI cJ cZ cS a s) [.ref (a 8), .int x1] (fun x u => x = r ∧ u = (wK cB cI cJ cZ cS a s')) :=
  CI_of (cc := cX1_valueOf) (maxL := 7) (ret := (some .int)) (by decide) rfl (Nat.le_of_ble_eq_true rfl) (bkX1_valueOf _ _ hB)
theorem LX2_oddsOfAll_24 : Cond.fieldLink RX2 24 "GuessFerry$Outlook" "sound" "LGuessFerry$Sound;" ∈ wsX2_oddsOfAll := by decide +kernel
theorem inX2_oddsOfAll_X2 : ∀ w ∈ u_ws RX2 TX2 6, w ∈ wsX2_oddsOfAll := by decide +kernel
theorem inX2_oddsOfAll_X5 : ∀ w ∈ u_ws RX5 TX5 10, w ∈ wsX2_oddsOfAll := by decide +kernel
set_option maxHeartbeats 4000000 in
set_option maxRecDepth 100000 in
theorem bkX2_oddsOfAll_61 {l : Launch} {dC : Nat → ClassId} {dI : Nat → Nat → Nat} {cB cI cJ cZ cS : ClassId} {a b : Nat → Nat} {as : List Value} {r : Int32} {s' : JS} {k5 : JS → Int32 → Int32 → Int32 → Option (Int32 × JS)} (hk5 : ∀ (s : JS) (x2 : Int32) (x3 : Int32) (x4 : Int32), k5 s x2 x3 x4 = some (r, s') → BlkI l yX2_oddsOfAll wsX2_oddsOfAll ({ frames := 2, cells := 0, slots := 0, locals := 45 }) cX2_oddsOfAll 7 (some .int) (dC, dI) (tysA cB cI cJ cZ cS) as 5 (wJ cB cI cJ cZ cS a b s) [(0, .ref (a 36)), (1, .ref (b 0)), (2, .int x2), (3, .int x3), (4, .int x4)] [] (fun x u => x = r ∧ u = (wJ cB cI cJ cZ cS a b s'))) (s : JS) (x2 : Int32) (x3 : Int32) (x4 : Int32) (hB : kX2_oddsOfAll_61 k5 s x2 x3 x4 = some (r, s')) : BlkI l yX2_oddsOfAll wsX2_oddsOfAll ({ frames := 2, cells := 0, slots := 0, locals := 45 }) cX2_oddsOfAll 7 (some .int) (dC, dI) (tysA cB cI cJ cZ cS) as 61 (wJ cB cI cJ cZ cS a b s) [(0, .ref (a 36)), (1, .ref (b 0)), (2, .int x2), (3, .int x3), (4, .int x4)] [] (fun x u => x = r ∧ u = (wJ cB cI cJ cZ cS a b s')) := by
  intro p e s0 m below meth c A E H locs ls hP hD hS hl
  obtain ⟨C, hr, hlocks, hA, hK, hN⟩ := id E
  obtain ⟨hx, hb, hml, hown, hts⟩ := id C
  unfold kX2_oddsOfAll_61 at hB
  refine lv_iinc (v := (x4 + 1)) (lv' := [(4, .int (x4 + 1)), (0, .ref (a 36)), (1, .ref (b 0)), (2, .int x2), (3, .int x3)]) hx hb dX2_oddsOfAll_61 hl (k := 4) rfl (rfl) (by decide) rfl (fun ls hl => ?_)
  refine lv_goto (tgt := 5) hx hb dX2_oddsOfAll_64 (by decide) ?_
  exact hk5 _ _ _ _ hB p e s0 m below meth c A E H locs ls hP hD hS (lv_sub hl [1, 2, 3, 4, 0] rfl)
set_option maxHeartbeats 4000000 in
set_option maxRecDepth 100000 in
theorem bkX2_oddsOfAll_29 {l : Launch} {dC : Nat → ClassId} {dI : Nat → Nat → Nat} {cB cI cJ cZ cS : ClassId} {a b : Nat → Nat} {as : List Value} {r : Int32} {s' : JS} {k5 : JS → Int32 → Int32 → Int32 → Option (Int32 × JS)} {k29 : JS → Int32 → Int32 → Int32 → Int32 → Int32 → Option (Int32 × JS)} (hk5 : ∀ (s : JS) (x2 : Int32) (x3 : Int32) (x4 : Int32), k5 s x2 x3 x4 = some (r, s') → BlkI l yX2_oddsOfAll wsX2_oddsOfAll ({ frames := 2, cells := 0, slots := 0, locals := 45 }) cX2_oddsOfAll 7 (some .int) (dC, dI) (tysA cB cI cJ cZ cS) as 5 (wJ cB cI cJ cZ cS a b s) [(0, .ref (a 36)), (1, .ref (b 0)), (2, .int x2), (3, .int x3), (4, .int x4)] [] (fun x u => x = r ∧ u = (wJ cB cI cJ cZ cS a b s'))) (hk29 : ∀ (s : JS) (x2 : Int32) (x3 : Int32) (x4 : Int32) (x5 : Int32) (x6 : Int32), k29 s x2 x3 x4 x5 x6 = some (r, s') → BlkI l yX2_oddsOfAll wsX2_oddsOfAll ({ frames := 2, cells := 0, slots := 0, locals := 45 }) cX2_oddsOfAll 7 (some .int) (dC, dI) (tysA cB cI cJ cZ cS) as 29 (wJ cB cI cJ cZ cS a b s) [(0, .ref (a 36)), (1, .ref (b 0)), (2, .int x2), (3, .int x3), (4, .int x4), (5, .int x5), (6, .int x6)] [] (fun x u => x = r ∧ u = (wJ cB cI cJ cZ cS a b s'))) (s : JS) (x2 : Int32) (x3 : Int32) (x4 : Int32) (x5 : Int32) (x6 : Int32) (hB : kX2_oddsOfAll_29 k5 k29 s x2 x3 x4 x5 x6 = some (r, s')) : BlkI l yX2_oddsOfAll wsX2_oddsOfAll ({ frames := 2, cells := 0, slots := 0, locals := 45 }) cX2_oddsOfAll 7 (some .int) (dC, dI) (tysA cB cI cJ cZ cS) as 29 (wJ cB cI cJ cZ cS a b s) [(0, .ref (a 36)), (1, .ref (b 0)), (2, .int x2), (3, .int x3), (4, .int x4), (5, .int x5), (6, .int x6)] [] (fun x u => x = r ∧ u = (wJ cB cI cJ cZ cS a b s')) := by
  intro p e s0 m below meth c A E H locs ls hP hD hS hl
  obtain ⟨C, hr, hlocks, hA, hK, hN⟩ := id E
  obtain ⟨hx, hb, hml, hown, hts⟩ := id C
  unfold kX2_oddsOfAll_29 at hB
  refine lv_iload hx hb dX2_oddsOfAll_29 (lv_at hl 6 rfl) ?_
  refine lv_bipush (v := 6) hx hb dX2_oddsOfAll_31 (by decide) ?_
  refine lv_icmp_ge (tgt := 56) hx hb dX2_oddsOfAll_33 (by decide) (fun c1 => ?_) (fun c1 => ?_)
  · have hB := if_p hB c1
    refine lv_iload_n hx hb dX2_oddsOfAll_56 rfl (lv_at hl 3 rfl) ?_
    refine lv_iload hx hb dX2_oddsOfAll_57 (lv_at hl 5 rfl) ?_
    refine lv_imul hx hb dX2_oddsOfAll_59 ?_
    refine lv_istore_n (lv' := [(3, .int (x3 * x5)), (0, .ref (a 36)), (1, .ref (b 0)), (2, .int x2), (4, .int x4), (5, .int x5), (6, .int x6)]) hx hb dX2_oddsOfAll_60 rfl hl (by decide) rfl (fun ls hl => ?_)
    exact bkX2_oddsOfAll_61 (hk5) _ _ _ _ hB p e s0 m below meth c A E H locs ls hP hD hS (lv_sub hl [1, 2, 3, 0, 4] rfl)
  · have hB := if_n hB c1
    refine lv_iload hx hb dX2_oddsOfAll_36 (lv_at hl 5 rfl) ?_
    refine lv_aload_n hx hb dX2_oddsOfAll_38 rfl (lv_at hl 0 rfl) ?_
    refine lv_aload_n hx hb dX2_oddsOfAll_39 rfl (lv_at hl 1 rfl) ?_
    refine lv_iload hx hb dX2_oddsOfAll_40 (lv_at hl 4 rfl) ?_
    refine lv_iload hx hb dX2_oddsOfAll_42 (lv_at hl 6 rfl) ?_
    obtain ⟨q_, s2, hc, hB⟩ := bindI_inv hB
    refine q_goiF (va_runV (As := [.ref (b 0), .int x4, .int x6]) (rest := [.int x5]) C (ckX2_oddsIfMay hc _) (cwV 3 hts gX2_oddsOfAll_X2_oddsIfMay rfl rfl rfl (by decide +kernel) ⟨Nat.le_of_ble_eq_true rfl, Nat.le_of_ble_eq_true rfl⟩) (q_preV hK hP (ci := 2) (q0 := 42) rfl rfl rfl (q_preF hN hK hP hD)) rfl rfl hl.1 rfl (lv_room (Nat.le_of_ble_eq_true rfl)) dX2_oddsOfAll_44 ⟨Nat.le_of_ble_eq_true rfl, Nat.le_of_ble_eq_true rfl⟩) hD hS hA (fun r3 w1 H locs hw hP hD hS => ?_)
    obtain ⟨hq_, hw⟩ := hw; subst hw; subst hq_
    refine lv_iadd hx hb dX2_oddsOfAll_47 ?_
    refine lv_istore (lv' := [(5, .int (x5 + r3)), (0, .ref (a 36)), (1, .ref (b 0)), (2, .int x2), (3, .int x3), (4, .int x4), (6, .int x6)]) hx hb dX2_oddsOfAll_48 hl (by decide) rfl (fun ls hl => ?_)
    refine lv_iinc (v := (x6 + 1)) (lv' := [(6, .int (x6 + 1)), (5, .int (x5 + r3)), (0, .ref (a 36)), (1, .ref (b 0)), (2, .int x2), (3, .int x3), (4, .int x4)]) hx hb dX2_oddsOfAll_50 hl (k := 6) rfl (rfl) (by decide) rfl (fun ls hl => ?_)
    refine lv_goto (tgt := 29) hx hb dX2_oddsOfAll_53 (by decide) ?_
    exact hk29 _ _ _ _ _ _ hB p e s0 m below meth c A E H locs ls hP hD hS (lv_sub hl [2, 3, 4, 5, 6, 1, 0] rfl)
theorem bkX2_oddsOfAll_29L {l : Launch} {dC : Nat → ClassId} {dI : Nat → Nat → Nat} {cB cI cJ cZ cS : ClassId} {a b : Nat → Nat} {as : List Value} {r : Int32} {s' : JS} {k5 : JS → Int32 → Int32 → Int32 → Option (Int32 × JS)} (hk5 : ∀ (s : JS) (x2 : Int32) (x3 : Int32) (x4 : Int32), k5 s x2 x3 x4 = some (r, s') → BlkI l yX2_oddsOfAll wsX2_oddsOfAll ({ frames := 2, cells := 0, slots := 0, locals := 45 }) cX2_oddsOfAll 7 (some .int) (dC, dI) (tysA cB cI cJ cZ cS) as 5 (wJ cB cI cJ cZ cS a b s) [(0, .ref (a 36)), (1, .ref (b 0)), (2, .int x2), (3, .int x3), (4, .int x4)] [] (fun x u => x = r ∧ u = (wJ cB cI cJ cZ cS a b s'))) : ∀ (n : Nat) (s : JS) (x2 : Int32) (x3 : Int32) (x4 : Int32) (x5 : Int32) (x6 : Int32), kX2_oddsOfAll_29L k5 n s x2 x3 x4 x5 x6 = some (r, s') → BlkI l yX2_oddsOfAll wsX2_oddsOfAll ({ frames := 2, cells := 0, slots := 0, locals := 45 }) cX2_oddsOfAll 7 (some .int) (dC, dI) (tysA cB cI cJ cZ cS) as 29 (wJ cB cI cJ cZ cS a b s) [(0, .ref (a 36)), (1, .ref (b 0)), (2, .int x2), (3, .int x3), (4, .int x4), (5, .int x5), (6, .int x6)] [] (fun x u => x = r ∧ u = (wJ cB cI cJ cZ cS a b s')) := by
  intro n
  induction n with
  | zero => intro s x2 x3 x4 x5 x6 hB; exact none_ne hB
  | succ n ih => intro s x2 x3 x4 x5 x6 hB; exact bkX2_oddsOfAll_29 hk5 ih _ _ _ _ _ _ hB
set_option maxHeartbeats 4000000 in
set_option maxRecDepth 100000 in
theorem bkX2_oddsOfAll_5 {l : Launch} {dC : Nat → ClassId} {dI : Nat → Nat → Nat} {cB cI cJ cZ cS : ClassId} {a b : Nat → Nat} {as : List Value} {r : Int32} {s' : JS} {k5 : JS → Int32 → Int32 → Int32 → Option (Int32 × JS)} (hk5 : ∀ (s : JS) (x2 : Int32) (x3 : Int32) (x4 : Int32), k5 s x2 x3 x4 = some (r, s') → BlkI l yX2_oddsOfAll wsX2_oddsOfAll ({ frames := 2, cells := 0, slots := 0, locals := 45 }) cX2_oddsOfAll 7 (some .int) (dC, dI) (tysA cB cI cJ cZ cS) as 5 (wJ cB cI cJ cZ cS a b s) [(0, .ref (a 36)), (1, .ref (b 0)), (2, .int x2), (3, .int x3), (4, .int x4)] [] (fun x u => x = r ∧ u = (wJ cB cI cJ cZ cS a b s'))) (s : JS) (x2 : Int32) (x3 : Int32) (x4 : Int32) (hB : kX2_oddsOfAll_5 k5 s x2 x3 x4 = some (r, s')) : BlkI l yX2_oddsOfAll wsX2_oddsOfAll ({ frames := 2, cells := 0, slots := 0, locals := 45 }) cX2_oddsOfAll 7 (some .int) (dC, dI) (tysA cB cI cJ cZ cS) as 5 (wJ cB cI cJ cZ cS a b s) [(0, .ref (a 36)), (1, .ref (b 0)), (2, .int x2), (3, .int x3), (4, .int x4)] [] (fun x u => x = r ∧ u = (wJ cB cI cJ cZ cS a b s')) := by
  intro p e s0 m below meth c A E H locs ls hP hD hS hl
  obtain ⟨C, hr, hlocks, hA, hK, hN⟩ := id E
  obtain ⟨hx, hb, hml, hown, hts⟩ := id C
  unfold kX2_oddsOfAll_5 at hB
  refine lv_iload hx hb dX2_oddsOfAll_5 (lv_at hl 4 rfl) ?_
  refine lv_aload_n hx hb dX2_oddsOfAll_7 rfl (lv_at hl 0 rfl) ?_
  refine q_get (v := .ref (a 2)) C inX2_oddsOfAll_X2 hK hP 42 rfl rfl 0 (by decide) rfl LX2_oddsOfAll_24 rfl dX2_oddsOfAll_8 ?_
  refine q_getN (v := .int (s.k.v 1)) C hN inX2_oddsOfAll_X5 hK hP 8 rfl rfl 6 (by decide) rfl nwF_X2_44 rfl dX2_oddsOfAll_11 ?_
  refine lv_icmp_ge (tgt := 67) hx hb dX2_oddsOfAll_14 (by decide) (fun c1 => ?_) (fun c1 => ?_)
  · have hB := if_p hB c1
    refine lv_iload_n hx hb dX2_oddsOfAll_67 rfl (lv_at hl 3 rfl) ?_
    exact q_iret C hr hlocks hK hP hD hS (Nat.le_of_ble_eq_true rfl) (Nat.le_of_ble_eq_true rfl) dX2_oddsOfAll_68 (by cases hB; exact ⟨rfl, rfl⟩)
  · have hB := if_n hB c1
    refine lv_iload hx hb dX2_oddsOfAll_17 (lv_at hl 4 rfl) ?_
    refine lv_iload_n hx hb dX2_oddsOfAll_19 rfl (lv_at hl 2 rfl) ?_
    refine lv_icmp_eq (tgt := 61) hx hb dX2_oddsOfAll_20 (by decide) (fun c2 => ?_) (fun c2 => ?_)
    · have hB := if_p hB c2
      exact bkX2_oddsOfAll_61 (hk5) _ _ _ _ hB p e s0 m below meth c A E H locs ls hP hD hS (lv_sub hl [0, 1, 2, 3, 4] rfl)
    · have hB := if_n hB c2
      refine lv_iconst (v := 0) hx hb dX2_oddsOfAll_23 (by decide) ?_
      refine lv_istore (lv' := [(5, .int 0), (0, .ref (a 36)), (1, .ref (b 0)), (2, .int x2), (3, .int x3), (4, .int x4)]) hx hb dX2_oddsOfAll_24 hl (by decide) rfl (fun ls hl => ?_)
      refine lv_iconst (v := 0) hx hb dX2_oddsOfAll_26 (by decide) ?_
      refine lv_istore (lv' := [(6, .int 0), (5, .int 0), (0, .ref (a 36)), (1, .ref (b 0)), (2, .int x2), (3, .int x3), (4, .int x4)]) hx hb dX2_oddsOfAll_27 hl (by decide) rfl (fun ls hl => ?_)
      exact bkX2_oddsOfAll_29L (hk5) fu _ _ _ _ _ _ hB p e s0 m below meth c A E H locs ls hP hD hS (lv_sub hl [2, 3, 4, 5, 6, 1, 0] rfl)
theorem bkX2_oddsOfAll_5L {l : Launch} {dC : Nat → ClassId} {dI : Nat → Nat → Nat} {cB cI cJ cZ cS : ClassId} {a b : Nat → Nat} {as : List Value} {r : Int32} {s' : JS} : ∀ (n : Nat) (s : JS) (x2 : Int32) (x3 : Int32) (x4 : Int32), kX2_oddsOfAll_5L n s x2 x3 x4 = some (r, s') → BlkI l yX2_oddsOfAll wsX2_oddsOfAll ({ frames := 2, cells := 0, slots := 0, locals := 45 }) cX2_oddsOfAll 7 (some .int) (dC, dI) (tysA cB cI cJ cZ cS) as 5 (wJ cB cI cJ cZ cS a b s) [(0, .ref (a 36)), (1, .ref (b 0)), (2, .int x2), (3, .int x3), (4, .int x4)] [] (fun x u => x = r ∧ u = (wJ cB cI cJ cZ cS a b s')) := by
  intro n
  induction n with
  | zero => intro s x2 x3 x4 hB; exact none_ne hB
  | succ n ih => intro s x2 x3 x4 hB; exact bkX2_oddsOfAll_5 ih _ _ _ _ hB
set_option maxHeartbeats 4000000 in
set_option maxRecDepth 100000 in
theorem bkX2_oddsOfAll {l : Launch} {dC : Nat → ClassId} {dI : Nat → Nat → Nat} {cB cI cJ cZ cS : ClassId} {a b : Nat → Nat} {as : List Value} {r : Int32} {s' : JS} (s : JS) (x2 : Int32) (hB : kX2_oddsOfAll s x2 = some (r, s')) : BlkI l yX2_oddsOfAll wsX2_oddsOfAll ({ frames := 2, cells := 0, slots := 0, locals := 45 }) cX2_oddsOfAll 7 (some .int) (dC, dI) (tysA cB cI cJ cZ cS) as 0 (wJ cB cI cJ cZ cS a b s) [(0, .ref (a 36)), (1, .ref (b 0)), (2, .int x2)] [] (fun x u => x = r ∧ u = (wJ cB cI cJ cZ cS a b s')) := by
  intro p e s0 m below meth c A E H locs ls hP hD hS hl
  obtain ⟨C, hr, hlocks, hA, hK, hN⟩ := id E
  obtain ⟨hx, hb, hml, hown, hts⟩ := id C
  unfold kX2_oddsOfAll at hB
  refine lv_iconst (v := 1) hx hb dX2_oddsOfAll_0 (by decide) ?_
  refine lv_istore_n (lv' := [(3, .int 1), (0, .ref (a 36)), (1, .ref (b 0)), (2, .int x2)]) hx hb dX2_oddsOfAll_1 rfl hl (by decide) rfl (fun ls hl => ?_)
  refine lv_iconst (v := 0) hx hb dX2_oddsOfAll_2 (by decide) ?_
  refine lv_istore (lv' := [(4, .int 0), (3, .int 1), (0, .ref (a 36)), (1, .ref (b 0)), (2, .int x2)]) hx hb dX2_oddsOfAll_3 hl (by decide) rfl (fun ls hl => ?_)
  exact bkX2_oddsOfAll_5L fu _ _ _ _ hB p e s0 m below meth c A E H locs ls hP hD hS (lv_sub hl [2, 3, 4, 1, 0] rfl)
theorem ckX2_oddsOfAll {l : Launch} {dC : Nat → ClassId} {dI : Nat → Nat → Nat} {cB cI cJ cZ cS : ClassId} {a b : Nat → Nat} {r : Int32} {s' : JS} {s : JS} {x2 : Int32} (hB : kX2_oddsOfAll s x2 = some (r, s')) : CI l yX2_oddsOfAll wsX2_oddsOfAll ({ frames := 2, cells := 0, slots := 0, locals := 45 }) (dC, dI) (tysA cB cI cJ cZ cS) (wJ cB cI cJ cZ cS a b s) [.ref (a 36), .ref (b 0), .int x2] (fun x u => x = r ∧ u = (wJ cB cI cJ cZ cS a b s')) :=
  CI_of (cc := cX2_oddsOfAll) (maxL := 7) (ret := (some .int)) (by decide) rfl (Nat.le_of_ble_eq_true rfl) (bkX2_oddsOfAll _ _ hB)
theorem LX5_clear_30 : Cond.fieldLink RX5 30 "GuessFerry$Sound" "laws" "LGuessFerry$Laws;" ∈ wsX5_clear := by decide +kernel
theorem LX5_clear_37 : Cond.fieldLink RX5 37 "GuessFerry$Sound" "waves" "I" ∈ wsX5_clear := by decide +kernel
theorem LX5_clear_41 : Cond.fieldLink RX5 41 "GuessFerry$Sound" "parties" "I" ∈ wsX5_clear := by decide +kernel
theorem LX5_clear_44 : Cond.fieldLink RX5 44 "GuessFerry$Sound" "guesses" "I" ∈ wsX5_clear := by decide +kernel
theorem LX5_clear_47 : Cond.fieldLink RX5 47 "GuessFerry$Sound" "seed" "I" ∈ wsX5_clear := by decide +kernel
theorem LX5_clear_E_X1_clear : Cond.selects RX1 yX1_clear yX1_clear ∈ wsX5_clear := by decide +kernel
theorem LX5_clear_I_X1 : Cond.initialized RX1 ∈ wsX5_clear := by decide +kernel
theorem LX5_clear_N_X1_clear : Cond.instanceMethod yX1_clear ∈ wsX5_clear := by decide +kernel
theorem inX5_clear_X5 : ∀ w ∈ u_ws RX5 TX5 10, w ∈ wsX5_clear := by decide +kernel
set_option maxHeartbeats 4000000 in
set_option maxRecDepth 100000 in
theorem bkX5_clear {l : Launch} {dC : Nat → ClassId} {dI : Nat → Nat → Nat} {cB cI cJ cZ cS : ClassId} {a : Nat → Nat} {as : List Value} {s' : KS} (s : KS) (hB : kX5_clear s = some s') : BlkV l yX5_clear wsX5_clear ({ frames := 3, cells := 0, slots := 0, locals := 62 }) cX5_clear 1 none (dC, dI) (tysA cB cI cJ cZ cS) as 0 (wK cB cI cJ cZ cS a s) [(0, .ref (a 15))] [] (fun u => u = (wK cB cI cJ cZ cS a s')) := by
  intro p e s0 m below meth c A E H locs ls hP hD hS hl
  obtain ⟨C, hr, hlocks, hA, hK, hN⟩ := id E
  obtain ⟨hx, hb, hml, hown, hts⟩ := id C
  unfold kX5_clear at hB
  refine lv_aload_n hx hb dX5_clear_0 rfl (lv_at hl 0 rfl) ?_
  refine lv_iconst (v := 0) hx hb dX5_clear_1 (by decide) ?_
  obtain ⟨s1, hs2, hB⟩ := letS_inv hB
  refine q_put (ty := .int) (w2 := (wK cB cI cJ cZ cS a s1)) tyX5 tyX5_ok nmX5 C inX5_clear_X5 hK hP hD hS 15 rfl rfl 6 (by decide) rfl LX5_clear_37 rfl (by decide +kernel) (rfl) rfl (Nat.le_of_ble_eq_true rfl) dX5_clear_2 (by subst hs2; rfl) (fun H locs hP hD hS => ?_)
  refine lv_aload_n hx hb dX5_clear_5 rfl (lv_at hl 0 rfl) ?_
  refine lv_iconst (v := 0) hx hb dX5_clear_6 (by decide) ?_
  obtain ⟨s3, hs4, hB⟩ := letS_inv hB
  refine q_put (ty := .int) (w2 := (wK cB cI cJ cZ cS a s3)) tyX5 tyX5_ok nmX5 C inX5_clear_X5 hK hP hD hS 15 rfl rfl 7 (by decide) rfl LX5_clear_41 rfl (by decide +kernel) (rfl) rfl (Nat.le_of_ble_eq_true rfl) dX5_clear_7 (by subst hs4; rfl) (fun H locs hP hD hS => ?_)
  refine lv_aload_n hx hb dX5_clear_10 rfl (lv_at hl 0 rfl) ?_
  refine lv_iconst (v := 1) hx hb dX5_clear_11 (by decide) ?_
  obtain ⟨s5, hs6, hB⟩ := letS_inv hB
  refine q_put (ty := .int) (w2 := (wK cB cI cJ cZ cS a s5)) tyX5 tyX5_ok nmX5 C inX5_clear_X5 hK hP hD hS 15 rfl rfl 8 (by decide) rfl LX5_clear_44 rfl (by decide +kernel) (rfl) rfl (Nat.le_of_ble_eq_true rfl) dX5_clear_12 (by subst hs6; rfl) (fun H locs hP hD hS => ?_)
  refine lv_aload_n hx hb dX5_clear_15 rfl (lv_at hl 0 rfl) ?_
  refine lv_iconst (v := 0) hx hb dX5_clear_16 (by decide) ?_
  obtain ⟨s7, hs8, hB⟩ := letS_inv hB
  refine q_put (ty := .int) (w2 := (wK cB cI cJ cZ cS a s7)) tyX5 tyX5_ok nmX5 C inX5_clear_X5 hK hP hD hS 15 rfl rfl 9 (by decide) rfl LX5_clear_47 rfl (by decide +kernel) (rfl) rfl (Nat.le_of_ble_eq_true rfl) dX5_clear_17 (by subst hs8; rfl) (fun H locs hP hD hS => ?_)
  refine lv_aload_n hx hb dX5_clear_20 rfl (lv_at hl 0 rfl) ?_
  refine q_get (v := .ref (a 21)) C inX5_clear_X5 hK hP 15 rfl rfl 5 (by decide) rfl LX5_clear_30 rfl dX5_clear_21 ?_
  obtain ⟨s9, hc, hB⟩ := bindP_inv hB
  refine q_govF (va_runVN (As := []) (rest := []) C (ckX1_clear hc _) ⟨va_cnB 0 hts gX5_clear_X1_clear_n50 rfl rfl rfl (hN _ nwM_X5_50 rfl) (hts _ LX5_clear_I_X1) (by decide +kernel) ⟨Nat.le_of_ble_eq_true rfl, Nat.le_of_ble_eq_true rfl⟩, hts _ LX5_clear_N_X1_clear, hts _ LX5_clear_E_X1_clear⟩ (q_preV hK hP (ci := 1) (q0 := 21) rfl rfl rfl (q_preF hN hK hP hD)) rfl rfl hl.1 rfl (lv_room (Nat.le_of_ble_eq_true rfl)) dX5_clear_24 ⟨Nat.le_of_ble_eq_true rfl, Nat.le_of_ble_eq_true rfl⟩) hD hS hA (fun w1 H locs hw hP hD hS => ?_)
  subst hw
  exact q_vret C hr hlocks hK hP hD hS (Nat.le_of_ble_eq_true rfl) (Nat.le_of_ble_eq_true rfl) dX5_clear_27 (by cases hB; rfl)
theorem ckX5_clear {l : Launch} {dC : Nat → ClassId} {dI : Nat → Nat → Nat} {cB cI cJ cZ cS : ClassId} {a : Nat → Nat} {s' : KS} {s : KS} (hB : kX5_clear s = some s') : CV l yX5_clear wsX5_clear ({ frames := 3, cells := 0, slots := 0, locals := 62 }) (dC, dI) (tysA cB cI cJ cZ cS) (wK cB cI cJ cZ cS a s) [.ref (a 15)] (fun u => u = (wK cB cI cJ cZ cS a s')) :=
  CV_of (cc := cX5_clear) (maxL := 1) (ret := none) (by decide) rfl (Nat.le_of_ble_eq_true rfl) (bkX5_clear _ hB)
theorem LX5_thingThere_15 : Cond.fieldLink RX5 15 "GuessFerry$Sound" "oddsSums" "[I" ∈ wsX5_thingThere := by decide +kernel
theorem LX5_thingThere_I_X10 : Cond.initialized RX10 ∈ wsX5_thingThere := by decide +kernel
theorem LX5_thingThere_S_X10_lot : Cond.static yX10_lot ∈ wsX5_thingThere := by decide +kernel
theorem inX5_thingThere_X5 : ∀ w ∈ u_ws RX5 TX5 10, w ∈ wsX5_thingThere := by decide +kernel
set_option maxHeartbeats 4000000 in
set_option maxRecDepth 100000 in
theorem bkX5_thingThere_24 {l : Launch} {dC : Nat → ClassId} {dI : Nat → Nat → Nat} {cB cI cJ cZ cS : ClassId} {a : Nat → Nat} {as : List Value} {r : Int32} {s' : KS} {k24 : KS → Int32 → Int32 → Int32 → Int32 → Option (Int32 × KS)} (hk24 : ∀ (s : KS) (x1 : Int32) (x4 : Int32) (x5 : Int32) (x6 : Int32), k24 s x1 x4 x5 x6 = some (r, s') → BlkI l yX5_thingThere wsX5_thingThere ({ frames := 2, cells := 0, slots := 0, locals := 45 }) cX5_thingThere 7 (some .int) (dC, dI) (tysA cB cI cJ cZ cS) as 24 (wK cB cI cJ cZ cS a s) [(0, .ref (a 2)), (1, .int x1), (4, .int x4), (5, .int x5), (6, .int x6)] [] (fun x u => x = r ∧ u = (wK cB cI cJ cZ cS a s'))) (s : KS) (x1 : Int32) (x4 : Int32) (x5 : Int32) (x6 : Int32) (hB : kX5_thingThere_24 k24 s x1 x4 x5 x6 = some (r, s')) : BlkI l yX5_thingThere wsX5_thingThere ({ frames := 2, cells := 0, slots := 0, locals := 45 }) cX5_thingThere 7 (some .int) (dC, dI) (tysA cB cI cJ cZ cS) as 24 (wK cB cI cJ cZ cS a s) [(0, .ref (a 2)), (1, .int x1), (4, .int x4), (5, .int x5), (6, .int x6)] [] (fun x u => x = r ∧ u = (wK cB cI cJ cZ cS a s')) := by
  intro p e s0 m below meth c A E H locs ls hP hD hS hl
  obtain ⟨C, hr, hlocks, hA, hK, hN⟩ := id E
  obtain ⟨hx, hb, hml, hown, hts⟩ := id C
  unfold kX5_thingThere_24 at hB
  refine lv_iload hx hb dX5_thingThere_24 (lv_at hl 4 rfl) ?_
  refine lv_bipush (v := 6) hx hb dX5_thingThere_26 (by decide) ?_
  refine lv_icmp_ge (tgt := 59) hx hb dX5_thingThere_28 (by decide) (fun c1 => ?_) (fun c1 => ?_)
  · have hB := if_p hB c1
    refine lv_iconst (v := 5) hx hb dX5_thingThere_59 (by decide) ?_
    exact q_iret C hr hlocks hK hP hD hS (Nat.le_of_ble_eq_true rfl) (Nat.le_of_ble_eq_true rfl) dX5_thingThere_60 (by cases hB; exact ⟨rfl, rfl⟩)
  · have hB := if_n hB c1
    refine lv_iload hx hb dX5_thingThere_31 (lv_at hl 3 rfl) ?_
    refine lv_aload_n hx hb dX5_thingThere_33 rfl (lv_at hl 0 rfl) ?_
    refine lv_iload_n hx hb dX5_thingThere_34 rfl (lv_at hl 1 rfl) ?_
    refine lv_iload hx hb dX5_thingThere_35 (lv_at hl 4 rfl) ?_
    obtain ⟨q_, s2, hc, hB⟩ := bindI_inv hB
    refine q_goiF (va_runV (As := [.int x1, .int x6]) (rest := [.int x5]) C (ckX5_oddsAt hc _) (cwV 2 hts gX5_thingThere_X5_oddsAt rfl rfl rfl (by decide +kernel) ⟨Nat.le_of_ble_eq_true rfl, Nat.le_of_ble_eq_true rfl⟩) (q_preV hK hP (ci := 5) (q0 := 2) rfl rfl rfl (q_preF hN hK hP hD)) rfl rfl hl.1 rfl (lv_room (Nat.le_of_ble_eq_true rfl)) dX5_thingThere_37 ⟨Nat.le_of_ble_eq_true rfl, Nat.le_of_ble_eq_true rfl⟩) hD hS hA (fun r3 w1 H locs hw hP hD hS => ?_)
    obtain ⟨hq_, hw⟩ := hw; subst hw; subst hq_
    refine lv_iadd hx hb dX5_thingThere_40 ?_
    refine lv_istore (lv' := [(5, .int (x5 + r3)), (0, .ref (a 2)), (1, .int x1), (4, .int x4), (6, .int x6)]) hx hb dX5_thingThere_41 hl (by decide) rfl (fun ls hl => ?_)
    refine lv_iload hx hb dX5_thingThere_43 (lv_at hl 0 rfl) ?_
    refine lv_iload hx hb dX5_thingThere_45 (lv_at hl 3 rfl) ?_
    refine lv_icmp_le (tgt := 53) hx hb dX5_thingThere_47 (by decide) (fun c4 => ?_) (fun c4 => ?_)
    · have hB := if_p hB c4
      refine lv_iinc (v := (x6 + 1)) (lv' := [(6, .int (x6 + 1)), (5, .int (x5 + r3)), (0, .ref (a 2)), (1, .int x1), (4, .int x4)]) hx hb dX5_thingThere_53 hl (k := 4) rfl (rfl) (by decide) rfl (fun ls hl => ?_)
      refine lv_goto (tgt := 24) hx hb dX5_thingThere_56 (by decide) ?_
      exact hk24 _ _ _ _ _ hB p e s0 m below meth c A E H locs ls hP hD hS (lv_sub hl [2, 3, 4, 1, 0] rfl)
    · have hB := if_n hB c4
      refine lv_iload hx hb dX5_thingThere_50 (lv_at hl 4 rfl) ?_
      exact q_iret C hr hlocks hK hP hD hS (Nat.le_of_ble_eq_true rfl) (Nat.le_of_ble_eq_true rfl) dX5_thingThere_52 (by cases hB; exact ⟨rfl, rfl⟩)
theorem bkX5_thingThere_24L {l : Launch} {dC : Nat → ClassId} {dI : Nat → Nat → Nat} {cB cI cJ cZ cS : ClassId} {a : Nat → Nat} {as : List Value} {r : Int32} {s' : KS} : ∀ (n : Nat) (s : KS) (x1 : Int32) (x4 : Int32) (x5 : Int32) (x6 : Int32), kX5_thingThere_24L n s x1 x4 x5 x6 = some (r, s') → BlkI l yX5_thingThere wsX5_thingThere ({ frames := 2, cells := 0, slots := 0, locals := 45 }) cX5_thingThere 7 (some .int) (dC, dI) (tysA cB cI cJ cZ cS) as 24 (wK cB cI cJ cZ cS a s) [(0, .ref (a 2)), (1, .int x1), (4, .int x4), (5, .int x5), (6, .int x6)] [] (fun x u => x = r ∧ u = (wK cB cI cJ cZ cS a s')) := by
  intro n
  induction n with
  | zero => intro s x1 x4 x5 x6 hB; exact none_ne hB
  | succ n ih => intro s x1 x4 x5 x6 hB; exact bkX5_thingThere_24 ih _ _ _ _ _ hB
set_option maxHeartbeats 4000000 in
set_option maxRecDepth 100000 in
theorem bkX5_thingThere {l : Launch} {dC : Nat → ClassId} {dI : Nat → Nat → Nat} {cB cI cJ cZ cS : ClassId} {a : Nat → Nat} {as : List Value} {r : Int32} {s' : KS} (s : KS) (x1 : Int32) (x2 : Int32) (x3 : Int32) (hB : kX5_thingThere s x1 x2 x3 = some (r, s')) : BlkI l yX5_thingThere wsX5_thingThere ({ frames := 2, cells := 0, slots := 0, locals := 45 }) cX5_thingThere 7 (some .int) (dC, dI) (tysA cB cI cJ cZ cS) as 0 (wK cB cI cJ cZ cS a s) [(0, .ref (a 2)), (1, .int x1), (2, .int x2), (3, .int x3)] [] (fun x u => x = r ∧ u = (wK cB cI cJ cZ cS a s')) := by
  intro p e s0 m below meth c A E H locs ls hP hD hS hl
  obtain ⟨C, hr, hlocks, hA, hK, hN⟩ := id E
  obtain ⟨hx, hb, hml, hown, hts⟩ := id C
  unfold kX5_thingThere at hB
  refine lv_aload_n hx hb dX5_thingThere_0 rfl (lv_at hl 0 rfl) ?_
  refine q_get (v := .ref (a 4)) C inX5_thingThere_X5 hK hP 2 rfl rfl 1 (by decide) rfl LX5_thingThere_15 rfl dX5_thingThere_1 ?_
  refine lv_iload_n hx hb dX5_thingThere_4 rfl (lv_at hl 1 rfl) ?_
  obtain ⟨g1, hB⟩ := guard_inv hB
  refine q_iald (x := ((s.f 4) (Int32.toNatClampNeg x1))) C hK hP 4 1 rfl rfl (vpb_in g1) dX5_thingThere_5 rfl ?_
  refine lv_iload_n hx hb dX5_thingThere_6 rfl (lv_at hl 3 rfl) ?_
  refine lv_bipush (v := 8) hx hb dX5_thingThere_7 (by decide) ?_
  refine lv_iload_n hx hb dX5_thingThere_9 rfl (lv_at hl 2 rfl) ?_
  refine lv_imul hx hb dX5_thingThere_10 ?_
  refine lv_iload_n hx hb dX5_thingThere_11 rfl (lv_at hl 1 rfl) ?_
  refine lv_iadd hx hb dX5_thingThere_12 ?_
  obtain ⟨q_, hc, hB⟩ := bindP_inv hB
  refine q_goi0 (va_runSN (As := [.int ((s.f 4) (Int32.toNatClampNeg x1)), .int x3, .int ((8 * x2) + x1)]) (rest := []) C (ckX10_lot hc _) ⟨va_cnB 3 hts gX5_thingThere_X10_lot_n65 rfl rfl rfl (hN _ nwM_X5_65 rfl) (hts _ LX5_thingThere_I_X10) (by decide +kernel) ⟨Nat.le_of_ble_eq_true rfl, Nat.le_of_ble_eq_true rfl⟩, hts _ LX5_thingThere_S_X10_lot, trivial⟩ (q_pre0 hN hK) rfl rfl hl.1 rfl (lv_room (Nat.le_of_ble_eq_true rfl)) dX5_thingThere_13 ⟨Nat.le_of_ble_eq_true rfl, Nat.le_of_ble_eq_true rfl⟩) hP hD hS hA (fun r2 w1 H locs hw hP hS => ?_)
  subst hw
  refine lv_istore (lv' := [(4, .int r2), (0, .ref (a 2)), (1, .int x1), (2, .int x2), (3, .int x3)]) hx hb dX5_thingThere_16 hl (by decide) rfl (fun ls hl => ?_)
  refine lv_iconst (v := 0) hx hb dX5_thingThere_18 (by decide) ?_
  refine lv_istore (lv' := [(5, .int 0), (4, .int r2), (0, .ref (a 2)), (1, .int x1), (2, .int x2), (3, .int x3)]) hx hb dX5_thingThere_19 hl (by decide) rfl (fun ls hl => ?_)
  refine lv_iconst (v := 0) hx hb dX5_thingThere_21 (by decide) ?_
  refine lv_istore (lv' := [(6, .int 0), (5, .int 0), (4, .int r2), (0, .ref (a 2)), (1, .int x1), (2, .int x2), (3, .int x3)]) hx hb dX5_thingThere_22 hl (by decide) rfl (fun ls hl => ?_)
  exact bkX5_thingThere_24L fu _ _ _ _ _ hB p e s0 m below meth c A E H locs ls hP hD hS (lv_sub hl [3, 4, 2, 1, 0] rfl)
theorem ckX5_thingThere {l : Launch} {dC : Nat → ClassId} {dI : Nat → Nat → Nat} {cB cI cJ cZ cS : ClassId} {a : Nat → Nat} {r : Int32} {s' : KS} {s : KS} {x1 : Int32} {x2 : Int32} {x3 : Int32} (hB : kX5_thingThere s x1 x2 x3 = some (r, s')) : CI l yX5_thingThere wsX5_thingThere ({ frames := 2, cells := 0, slots := 0, locals := 45 }) (dC, dI) (tysA cB cI cJ cZ cS) (wK cB cI cJ cZ cS a s) [.ref (a 2), .int x1, .int x2, .int x3] (fun x u => x = r ∧ u = (wK cB cI cJ cZ cS a s')) :=
  CI_of (cc := cX5_thingThere) (maxL := 7) (ret := (some .int)) (by decide) rfl (Nat.le_of_ble_eq_true rfl) (bkX5_thingThere _ _ _ _ hB)
theorem LX8_believe_18 : Cond.fieldLink RX8 18 "GuessFerry$Tellers" "odds" "[I" ∈ wsX8_believe := by decide +kernel
theorem LX8_believe_21 : Cond.fieldLink RX8 21 "GuessFerry$Tellers" "belied" "[I" ∈ wsX8_believe := by decide +kernel
theorem LX8_believe_27 : Cond.fieldLink RX8 27 "GuessFerry$Tellers" "sound" "LGuessFerry$Sound;" ∈ wsX8_believe := by decide +kernel
theorem LX8_believe_31 : Cond.fieldLink RX8 31 "GuessFerry$Tellers" "crossing" "LGuessFerry$Crossing;" ∈ wsX8_believe := by decide +kernel
theorem LX8_believe_E_X0_mayBe : Cond.selects RX0 yX0_mayBe yX0_mayBe ∈ wsX8_believe := by decide +kernel
theorem LX8_believe_E_X5_oddsAt : Cond.selects RX5 yX5_oddsAt yX5_oddsAt ∈ wsX8_believe := by decide +kernel
theorem LX8_believe_I_X0 : Cond.initialized RX0 ∈ wsX8_believe := by decide +kernel
theorem LX8_believe_I_X10 : Cond.initialized RX10 ∈ wsX8_believe := by decide +kernel
theorem LX8_believe_I_X5 : Cond.initialized RX5 ∈ wsX8_believe := by decide +kernel
theorem LX8_believe_N_X0_mayBe : Cond.instanceMethod yX0_mayBe ∈ wsX8_believe := by decide +kernel
theorem LX8_believe_N_X5_oddsAt : Cond.instanceMethod yX5_oddsAt ∈ wsX8_believe := by decide +kernel
theorem LX8_believe_S_X10_has : Cond.static yX10_has ∈ wsX8_believe := by decide +kernel
theorem inX8_believe_X5 : ∀ w ∈ u_ws RX5 TX5 10, w ∈ wsX8_believe := by decide +kernel
theorem inX8_believe_X8 : ∀ w ∈ u_ws RX8 TX8 8, w ∈ wsX8_believe := by decide +kernel
set_option maxHeartbeats 4000000 in
set_option maxRecDepth 100000 in
theorem bkX8_believe_73 {l : Launch} {dC : Nat → ClassId} {dI : Nat → Nat → Nat} {cB cI cJ cZ cS : ClassId} {a b : Nat → Nat} {as : List Value} {s' : JS} {k2 : JS → Int32 → Int32 → Option JS} {k27 : JS → Int32 → Int32 → Int32 → Int32 → Option JS} (hk2 : ∀ (s : JS) (x2 : Int32) (x3 : Int32), k2 s x2 x3 = some s' → BlkV l yX8_believe wsX8_believe ({ frames := 2, cells := 0, slots := 0, locals := 46 }) cX8_believe 7 none (dC, dI) (tysA cB cI cJ cZ cS) as 2 (wJ cB cI cJ cZ cS a b s) [(0, .ref (a 41)), (1, .ref (b 0)), (2, .int x2), (3, .int x3)] [] (fun u => u = (wJ cB cI cJ cZ cS a b s'))) (hk27 : ∀ (s : JS) (x2 : Int32) (x3 : Int32) (x4 : Int32) (x5 : Int32), k27 s x2 x3 x4 x5 = some s' → BlkV l yX8_believe wsX8_believe ({ frames := 2, cells := 0, slots := 0, locals := 46 }) cX8_believe 7 none (dC, dI) (tysA cB cI cJ cZ cS) as 27 (wJ cB cI cJ cZ cS a b s) [(0, .ref (a 41)), (1, .ref (b 0)), (2, .int x2), (3, .int x3), (4, .int x4), (5, .int x5)] [] (fun u => u = (wJ cB cI cJ cZ cS a b s'))) (s : JS) (x2 : Int32) (x3 : Int32) (x4 : Int32) (x5 : Int32) (x6 : Int32) (t0 : Int32) (t1 : Int32) (hB : kX8_believe_73 k2 k27 s x2 x3 x4 x5 x6 t0 t1 = some s') : BlkV l yX8_believe wsX8_believe ({ frames := 2, cells := 0, slots := 0, locals := 46 }) cX8_believe 7 none (dC, dI) (tysA cB cI cJ cZ cS) as 73 (wJ cB cI cJ cZ cS a b s) [(0, .ref (a 41)), (1, .ref (b 0)), (2, .int x2), (3, .int x3), (4, .int x4), (5, .int x5), (6, .int x6)] [.int t0, .int t1, .ref (a 44)] (fun u => u = (wJ cB cI cJ cZ cS a b s')) := by
  intro p e s0 m below meth c A E H locs ls hP hD hS hl
  obtain ⟨C, hr, hlocks, hA, hK, hN⟩ := id E
  obtain ⟨hx, hb, hml, hown, hts⟩ := id C
  unfold kX8_believe_73 at hB
  obtain ⟨g1, hB⟩ := guard_inv hB
  obtain ⟨s2, hs3, hB⟩ := letS_inv hB
  refine q_iast (f2 := (upd (s.k.f 44) (Int32.toNatClampNeg t1) t0)) (w2 := (wJ cB cI cJ cZ cS a b s2)) C hK hP hD hS 50 1 rfl rfl (vpb_in g1) dX8_believe_73 rfl (by subst hs3; rfl) (fun H locs hP hD hS => ?_)
  refine lv_aload_n hx hb dX8_believe_74 rfl (lv_at hl 0 rfl) ?_
  refine q_get (v := .ref (a 45)) C inX8_believe_X8 hK hP 47 rfl rfl 5 (by decide) rfl LX8_believe_21 rfl dX8_believe_75 ?_
  refine lv_iload hx hb dX8_believe_78 (lv_at hl 6 rfl) ?_
  refine lv_aload_n hx hb dX8_believe_80 rfl (lv_at hl 0 rfl) ?_
  refine lv_iload_n hx hb dX8_believe_81 rfl (lv_at hl 3 rfl) ?_
  refine lv_iload hx hb dX8_believe_82 (lv_at hl 5 rfl) ?_
  refine lv_iload_n hx hb dX8_believe_84 rfl (lv_at hl 2 rfl) ?_
  obtain ⟨q_, s4, hc, hB⟩ := bindI_inv hB
  refine q_goi (wr := ((wD cI b s2.d))) (va_runV (As := [.int x3, .int x5, .int x2]) (rest := [.int x6, .ref (a 45)]) C (ckX8_beliedBy hc _) (cwV 3 hts gX8_believe_X8_beliedBy rfl rfl rfl (by decide +kernel) ⟨Nat.le_of_ble_eq_true rfl, Nat.le_of_ble_eq_true rfl⟩) (q_preV hK hP (ci := 8) (q0 := 47) rfl rfl rfl (q_pre hN hK hP hD [6, 7, 8, 9, 10, 11, 12, 13, 14, 15, 16, 17, 18, 19, 20, 21, 22, 23, 24, 25, 26, 27, 28, 29, 30, 31, 32, 33, 34, 35, 36, 37, 38, 39, 40, 41, 42, 43, 44, 45, 46, 47, 48, 49, 50, 51, 52] rfl (by decide))) rfl rfl hl.1 rfl (lv_room (Nat.le_of_ble_eq_true rfl)) dX8_believe_85 ⟨Nat.le_of_ble_eq_true rfl, Nat.le_of_ble_eq_true rfl⟩) hP hD hS hA [6, 7, 8, 9, 10, 11, 12, 13, 14, 15, 16, 17, 18, 19, 20, 21, 22, 23, 24, 25, 26, 27, 28, 29, 30, 31, 32, 33, 34, 35, 36, 37, 38, 39, 40, 41, 42, 43, 44, 45, 46, 47, 48, 49, 50, 51, 52] [0, 1, 2, 3, 4, 5] rfl rfl (by decide) (by decide) (fun r5 w1 H locs hw hP hD hS => ?_)
  obtain ⟨hq_, hw⟩ := hw; subst hw; subst hq_
  obtain ⟨s6, hs7, hB⟩ := letS_inv hB
  have hP : va_P (dC, dI) vwCl (wJ cB cI cJ cZ cS a b s6) H := by subst hs7; exact hP
  have hD : va_D A (wJ cB cI cJ cZ cS a b s6) := by subst hs7; exact hD
  obtain ⟨g8, hB⟩ := guard_inv hB
  obtain ⟨s9, hs10, hB⟩ := letS_inv hB
  refine q_iast (f2 := (upd (s6.k.f 45) (Int32.toNatClampNeg x6) r5)) (w2 := (wJ cB cI cJ cZ cS a b s9)) C hK hP hD hS 51 1 rfl rfl (vpb_in g8) dX8_believe_88 rfl (by subst hs10; rfl) (fun H locs hP hD hS => ?_)
  refine lv_iinc (v := (x5 + 1)) (lv' := [(5, .int (x5 + 1)), (0, .ref (a 41)), (1, .ref (b 0)), (2, .int x2), (3, .int x3), (4, .int x4), (6, .int x6)]) hx hb dX8_believe_89 hl (k := 5) rfl (rfl) (by decide) rfl (fun ls hl => ?_)
  refine lv_goto (tgt := 27) hx hb dX8_believe_92 (by decide) ?_
  exact hk27 _ _ _ _ _ hB p e s0 m below meth c A E H locs ls hP hD hS (lv_sub hl [1, 2, 3, 4, 5, 0] rfl)
set_option maxHeartbeats 4000000 in
set_option maxRecDepth 100000 in
theorem bkX8_believe_27 {l : Launch} {dC : Nat → ClassId} {dI : Nat → Nat → Nat} {cB cI cJ cZ cS : ClassId} {a b : Nat → Nat} {as : List Value} {s' : JS} {k2 : JS → Int32 → Int32 → Option JS} {k27 : JS → Int32 → Int32 → Int32 → Int32 → Option JS} (hk2 : ∀ (s : JS) (x2 : Int32) (x3 : Int32), k2 s x2 x3 = some s' → BlkV l yX8_believe wsX8_believe ({ frames := 2, cells := 0, slots := 0, locals := 46 }) cX8_believe 7 none (dC, dI) (tysA cB cI cJ cZ cS) as 2 (wJ cB cI cJ cZ cS a b s) [(0, .ref (a 41)), (1, .ref (b 0)), (2, .int x2), (3, .int x3)] [] (fun u => u = (wJ cB cI cJ cZ cS a b s'))) (hk27 : ∀ (s : JS) (x2 : Int32) (x3 : Int32) (x4 : Int32) (x5 : Int32), k27 s x2 x3 x4 x5 = some s' → BlkV l yX8_believe wsX8_believe ({ frames := 2, cells := 0, slots := 0, locals := 46 }) cX8_believe 7 none (dC, dI) (tysA cB cI cJ cZ cS) as 27 (wJ cB cI cJ cZ cS a b s) [(0, .ref (a 41)), (1, .ref (b 0)), (2, .int x2), (3, .int x3), (4, .int x4), (5, .int x5)] [] (fun u => u = (wJ cB cI cJ cZ cS a b s'))) (s : JS) (x2 : Int32) (x3 : Int32) (x4 : Int32) (x5 : Int32) (hB : kX8_believe_27 k2 k27 s x2 x3 x4 x5 = some s') : BlkV l yX8_believe wsX8_believe ({ frames := 2, cells := 0, slots := 0, locals := 46 }) cX8_believe 7 none (dC, dI) (tysA cB cI cJ cZ cS) as 27 (wJ cB cI cJ cZ cS a b s) [(0, .ref (a 41)), (1, .ref (b 0)), (2, .int x2), (3, .int x3), (4, .int x4), (5, .int x5)] [] (fun u => u = (wJ cB cI cJ cZ cS a b s')) := by
  intro p e s0 m below meth c A E H locs ls hP hD hS hl
  obtain ⟨C, hr, hlocks, hA, hK, hN⟩ := id E
  obtain ⟨hx, hb, hml, hown, hts⟩ := id C
  unfold kX8_believe_27 at hB
  refine lv_iload hx hb dX8_believe_27 (lv_at hl 5 rfl) ?_
  refine lv_bipush (v := 6) hx hb dX8_believe_29 (by decide) ?_
  refine lv_icmp_ge (tgt := 95) hx hb dX8_believe_31 (by decide) (fun c1 => ?_) (fun c1 => ?_)
  · have hB := if_p hB c1
    refine lv_iinc (v := (x3 + 1)) (lv' := [(3, .int (x3 + 1)), (0, .ref (a 41)), (1, .ref (b 0)), (2, .int x2), (4, .int x4), (5, .int x5)]) hx hb dX8_believe_95 hl (k := 3) rfl (rfl) (by decide) rfl (fun ls hl => ?_)
    refine lv_goto (tgt := 2) hx hb dX8_believe_98 (by decide) ?_
    exact hk2 _ _ _ hB p e s0 m below meth c A E H locs ls hP hD hS (lv_sub hl [1, 2, 3, 0] rfl)
  · have hB := if_n hB c1
    refine lv_iload_n hx hb dX8_believe_34 rfl (lv_at hl 3 rfl) ?_
    refine lv_bipush (v := 6) hx hb dX8_believe_35 (by decide) ?_
    refine lv_imul hx hb dX8_believe_37 ?_
    refine lv_iload hx hb dX8_believe_38 (lv_at hl 5 rfl) ?_
    refine lv_iadd hx hb dX8_believe_40 ?_
    refine lv_istore (lv' := [(6, .int ((x3 * 6) + x5)), (0, .ref (a 41)), (1, .ref (b 0)), (2, .int x2), (3, .int x3), (4, .int x4), (5, .int x5)]) hx hb dX8_believe_41 hl (by decide) rfl (fun ls hl => ?_)
    refine lv_aload_n hx hb dX8_believe_43 rfl (lv_at hl 1 rfl) ?_
    refine q_get (v := .ref (a 44)) C inX8_believe_X8 hK hP 47 rfl rfl 4 (by decide) rfl LX8_believe_18 rfl dX8_believe_44 ?_
    refine lv_iload hx hb dX8_believe_47 (lv_at hl 0 rfl) ?_
    refine lv_iload hx hb dX8_believe_49 (lv_at hl 5 rfl) ?_
    refine lv_iload hx hb dX8_believe_51 (lv_at hl 6 rfl) ?_
    obtain ⟨q_, hc, hB⟩ := bindP_inv hB
    refine q_goi0 (va_runSN (As := [.int x4, .int x5]) (rest := [.int ((x3 * 6) + x5), .ref (a 44)]) C (ckX10_has hc _) ⟨va_cnB 2 hts gX8_believe_X10_has_n50 rfl rfl rfl (hN _ nwM_X8_50 rfl) (hts _ LX8_believe_I_X10) (by decide +kernel) ⟨Nat.le_of_ble_eq_true rfl, Nat.le_of_ble_eq_true rfl⟩, hts _ LX8_believe_S_X10_has, trivial⟩ (q_pre0 hN hK) rfl rfl hl.1 rfl (lv_room (Nat.le_of_ble_eq_true rfl)) dX8_believe_53 ⟨Nat.le_of_ble_eq_true rfl, Nat.le_of_ble_eq_true rfl⟩) hP hD hS hA (fun r2 w1 H locs hw hP hS => ?_)
    subst hw
    refine lv_if_eq (tgt := 72) hx hb dX8_believe_56 (by decide) (fun c3 => ?_) (fun c3 => ?_)
    · have hB := if_p hB c3
      refine lv_iconst (v := 0) hx hb dX8_believe_72 (by decide) ?_
      exact bkX8_believe_73 (hk2) (hk27) _ _ _ _ _ _ _ _ hB p e s0 m below meth c A E H locs ls hP hD hS (lv_sub hl [1, 2, 3, 4, 5, 6, 0] rfl)
    · have hB := if_n hB c3
      refine lv_aload_n hx hb dX8_believe_59 rfl (lv_at hl 1 rfl) ?_
      refine q_get (v := .ref (a 2)) C inX8_believe_X8 hK hP 47 rfl rfl 0 (by decide) rfl LX8_believe_27 rfl dX8_believe_60 ?_
      refine lv_iload_n hx hb dX8_believe_63 rfl (lv_at hl 4 rfl) ?_
      refine lv_iload hx hb dX8_believe_64 (lv_at hl 6 rfl) ?_
      obtain ⟨q_, s4, hc, hB⟩ := bindI_inv hB
      refine q_goi (wr := ((wD cI b s.d))) (va_runVN (As := [.int x3, .int x5]) (rest := [.int ((x3 * 6) + x5), .ref (a 44)]) C (ckX5_oddsAt hc _) ⟨va_cnB 2 hts gX8_believe_X5_oddsAt_n54 rfl rfl rfl (hN _ nwM_X8_54 rfl) (hts _ LX8_believe_I_X5) (by decide +kernel) ⟨Nat.le_of_ble_eq_true rfl, Nat.le_of_ble_eq_true rfl⟩, hts _ LX8_believe_N_X5_oddsAt, hts _ LX8_believe_E_X5_oddsAt⟩ (q_preV hK hP (ci := 5) (q0 := 8) rfl rfl rfl (q_pre hN hK hP hD [6, 7, 8, 9, 10, 11, 12, 13, 14, 15, 16, 17, 18, 19, 20, 21, 22, 23, 24, 25, 26, 27, 28, 29, 30, 31, 32, 33, 34, 35, 36, 37, 38, 39, 40, 41, 42, 43, 44, 45, 46, 47, 48, 49, 50, 51, 52] rfl (by decide))) rfl rfl hl.1 rfl (lv_room (Nat.le_of_ble_eq_true rfl)) dX8_believe_66 ⟨Nat.le_of_ble_eq_true rfl, Nat.le_of_ble_eq_true rfl⟩) hP hD hS hA [6, 7, 8, 9, 10, 11, 12, 13, 14, 15, 16, 17, 18, 19, 20, 21, 22, 23, 24, 25, 26, 27, 28, 29, 30, 31, 32, 33, 34, 35, 36, 37, 38, 39, 40, 41, 42, 43, 44, 45, 46, 47, 48, 49, 50, 51, 52] [0, 1, 2, 3, 4, 5] rfl rfl (by decide) (by decide) (fun r5 w1 H locs hw hP hD hS => ?_)
      obtain ⟨hq_, hw⟩ := hw; subst hw; subst hq_
      obtain ⟨s6, hs7, hB⟩ := letS_inv hB
      have hP : va_P (dC, dI) vwCl (wJ cB cI cJ cZ cS a b s6) H := by subst hs7; exact hP
      have hD : va_D A (wJ cB cI cJ cZ cS a b s6) := by subst hs7; exact hD
      refine lv_goto (tgt := 73) hx hb dX8_believe_69 (by decide) ?_
      exact bkX8_believe_73 (hk2) (hk27) _ _ _ _ _ _ _ _ hB p e s0 m below meth c A E H locs ls hP hD hS (lv_sub hl [1, 2, 3, 4, 5, 6, 0] rfl)
theorem bkX8_believe_27L {l : Launch} {dC : Nat → ClassId} {dI : Nat → Nat → Nat} {cB cI cJ cZ cS : ClassId} {a b : Nat → Nat} {as : List Value} {s' : JS} {k2 : JS → Int32 → Int32 → Option JS} (hk2 : ∀ (s : JS) (x2 : Int32) (x3 : Int32), k2 s x2 x3 = some s' → BlkV l yX8_believe wsX8_believe ({ frames := 2, cells := 0, slots := 0, locals := 46 }) cX8_believe 7 none (dC, dI) (tysA cB cI cJ cZ cS) as 2 (wJ cB cI cJ cZ cS a b s) [(0, .ref (a 41)), (1, .ref (b 0)), (2, .int x2), (3, .int x3)] [] (fun u => u = (wJ cB cI cJ cZ cS a b s'))) : ∀ (n : Nat) (s : JS) (x2 : Int32) (x3 : Int32) (x4 : Int32) (x5 : Int32), kX8_believe_27L k2 n s x2 x3 x4 x5 = some s' → BlkV l yX8_believe wsX8_believe ({ frames := 2, cells := 0, slots := 0, locals := 46 }) cX8_believe 7 none (dC, dI) (tysA cB cI cJ cZ cS) as 27 (wJ cB cI cJ cZ cS a b s) [(0, .ref (a 41)), (1, .ref (b 0)), (2, .int x2), (3, .int x3), (4, .int x4), (5, .int x5)] [] (fun u => u = (wJ cB cI cJ cZ cS a b s')) := by
  intro n
  induction n with
  | zero => intro s x2 x3 x4 x5 hB; exact none_ne hB
  | succ n ih => intro s x2 x3 x4 x5 hB; exact bkX8_believe_27 hk2 ih _ _ _ _ _ hB
set_option maxHeartbeats 4000000 in
set_option maxRecDepth 100000 in
theorem bkX8_believe_2 {l : Launch} {dC : Nat → ClassId} {dI : Nat → Nat → Nat} {cB cI cJ cZ cS : ClassId} {a b : Nat → Nat} {as : List Value} {s' : JS} {k2 : JS → Int32 → Int32 → Option JS} (hk2 : ∀ (s : JS) (x2 : Int32) (x3 : Int32), k2 s x2 x3 = some s' → BlkV l yX8_believe wsX8_believe ({ frames := 2, cells := 0, slots := 0, locals := 46 }) cX8_believe 7 none (dC, dI) (tysA cB cI cJ cZ cS) as 2 (wJ cB cI cJ cZ cS a b s) [(0, .ref (a 41)), (1, .ref (b 0)), (2, .int x2), (3, .int x3)] [] (fun u => u = (wJ cB cI cJ cZ cS a b s'))) (s : JS) (x2 : Int32) (x3 : Int32) (hB : kX8_believe_2 k2 s x2 x3 = some s') : BlkV l yX8_believe wsX8_believe ({ frames := 2, cells := 0, slots := 0, locals := 46 }) cX8_believe 7 none (dC, dI) (tysA cB cI cJ cZ cS) as 2 (wJ cB cI cJ cZ cS a b s) [(0, .ref (a 41)), (1, .ref (b 0)), (2, .int x2), (3, .int x3)] [] (fun u => u = (wJ cB cI cJ cZ cS a b s')) := by
  intro p e s0 m below meth c A E H locs ls hP hD hS hl
  obtain ⟨C, hr, hlocks, hA, hK, hN⟩ := id E
  obtain ⟨hx, hb, hml, hown, hts⟩ := id C
  unfold kX8_believe_2 at hB
  refine lv_iload_n hx hb dX8_believe_2 rfl (lv_at hl 3 rfl) ?_
  refine lv_aload_n hx hb dX8_believe_3 rfl (lv_at hl 0 rfl) ?_
  refine q_get (v := .ref (a 2)) C inX8_believe_X8 hK hP 47 rfl rfl 0 (by decide) rfl LX8_believe_27 rfl dX8_believe_4 ?_
  refine q_getN (v := .int (s.k.v 1)) C hN inX8_believe_X5 hK hP 8 rfl rfl 6 (by decide) rfl nwF_X8_39 rfl dX8_believe_7 ?_
  refine lv_icmp_ge (tgt := 101) hx hb dX8_believe_10 (by decide) (fun c1 => ?_) (fun c1 => ?_)
  · have hB := if_p hB c1
    exact q_vret C hr hlocks hK hP hD hS (Nat.le_of_ble_eq_true rfl) (Nat.le_of_ble_eq_true rfl) dX8_believe_101 (by cases hB; rfl)
  · have hB := if_n hB c1
    refine lv_aload_n hx hb dX8_believe_13 rfl (lv_at hl 0 rfl) ?_
    refine q_get (v := .ref (a 35)) C inX8_believe_X8 hK hP 47 rfl rfl 1 (by decide) rfl LX8_believe_31 rfl dX8_believe_14 ?_
    refine lv_aload_n hx hb dX8_believe_17 rfl (lv_at hl 1 rfl) ?_
    refine lv_iload_n hx hb dX8_believe_18 rfl (lv_at hl 3 rfl) ?_
    obtain ⟨q_, s2, hc, hB⟩ := bindI_inv hB
    refine q_goiF (va_runVN (As := [.ref (b 0), .int x3]) (rest := []) C (ckX0_mayBe hc _) ⟨va_cnB 2 hts gX8_believe_X0_mayBe_n44 rfl rfl rfl (hN _ nwM_X8_44 rfl) (hts _ LX8_believe_I_X0) (by decide +kernel) ⟨Nat.le_of_ble_eq_true rfl, Nat.le_of_ble_eq_true rfl⟩, hts _ LX8_believe_N_X0_mayBe, hts _ LX8_believe_E_X0_mayBe⟩ (q_preV hK hP (ci := 0) (q0 := 41) rfl rfl rfl (q_preF hN hK hP hD)) rfl rfl hl.1 rfl (lv_room (Nat.le_of_ble_eq_true rfl)) dX8_believe_19 ⟨Nat.le_of_ble_eq_true rfl, Nat.le_of_ble_eq_true rfl⟩) hD hS hA (fun r3 w1 H locs hw hP hD hS => ?_)
    obtain ⟨hq_, hw⟩ := hw; subst hw; subst hq_
    refine lv_istore (lv' := [(4, .int r3), (0, .ref (a 41)), (1, .ref (b 0)), (2, .int x2), (3, .int x3)]) hx hb dX8_believe_22 hl (by decide) rfl (fun ls hl => ?_)
    refine lv_iconst (v := 0) hx hb dX8_believe_24 (by decide) ?_
    refine lv_istore (lv' := [(5, .int 0), (4, .int r3), (0, .ref (a 41)), (1, .ref (b 0)), (2, .int x2), (3, .int x3)]) hx hb dX8_believe_25 hl (by decide) rfl (fun ls hl => ?_)
    exact bkX8_believe_27L (hk2) fu _ _ _ _ _ hB p e s0 m below meth c A E H locs ls hP hD hS (lv_sub hl [2, 3, 4, 5, 1, 0] rfl)
theorem bkX8_believe_2L {l : Launch} {dC : Nat → ClassId} {dI : Nat → Nat → Nat} {cB cI cJ cZ cS : ClassId} {a b : Nat → Nat} {as : List Value} {s' : JS} : ∀ (n : Nat) (s : JS) (x2 : Int32) (x3 : Int32), kX8_believe_2L n s x2 x3 = some s' → BlkV l yX8_believe wsX8_believe ({ frames := 2, cells := 0, slots := 0, locals := 46 }) cX8_believe 7 none (dC, dI) (tysA cB cI cJ cZ cS) as 2 (wJ cB cI cJ cZ cS a b s) [(0, .ref (a 41)), (1, .ref (b 0)), (2, .int x2), (3, .int x3)] [] (fun u => u = (wJ cB cI cJ cZ cS a b s')) := by
  intro n
  induction n with
  | zero => intro s x2 x3 hB; exact none_ne hB
  | succ n ih => intro s x2 x3 hB; exact bkX8_believe_2 ih _ _ _ hB
set_option maxHeartbeats 4000000 in
set_option maxRecDepth 100000 in
theorem bkX8_believe {l : Launch} {dC : Nat → ClassId} {dI : Nat → Nat → Nat} {cB cI cJ cZ cS : ClassId} {a b : Nat → Nat} {as : List Value} {s' : JS} (s : JS) (x2 : Int32) (hB : kX8_believe s x2 = some s') : BlkV l yX8_believe wsX8_believe ({ frames := 2, cells := 0, slots := 0, locals := 46 }) cX8_believe 7 none (dC, dI) (tysA cB cI cJ cZ cS) as 0 (wJ cB cI cJ cZ cS a b s) [(0, .ref (a 41)), (1, .ref (b 0)), (2, .int x2)] [] (fun u => u = (wJ cB cI cJ cZ cS a b s')) := by
  intro p e s0 m below meth c A E H locs ls hP hD hS hl
  obtain ⟨C, hr, hlocks, hA, hK, hN⟩ := id E
  obtain ⟨hx, hb, hml, hown, hts⟩ := id C
  unfold kX8_believe at hB
  refine lv_iconst (v := 0) hx hb dX8_believe_0 (by decide) ?_
  refine lv_istore_n (lv' := [(3, .int 0), (0, .ref (a 41)), (1, .ref (b 0)), (2, .int x2)]) hx hb dX8_believe_1 rfl hl (by decide) rfl (fun ls hl => ?_)
  exact bkX8_believe_2L fu _ _ _ hB p e s0 m below meth c A E H locs ls hP hD hS (lv_sub hl [1, 2, 3, 0] rfl)
theorem ckX8_believe {l : Launch} {dC : Nat → ClassId} {dI : Nat → Nat → Nat} {cB cI cJ cZ cS : ClassId} {a b : Nat → Nat} {s' : JS} {s : JS} {x2 : Int32} (hB : kX8_believe s x2 = some s') : CV l yX8_believe wsX8_believe ({ frames := 2, cells := 0, slots := 0, locals := 46 }) (dC, dI) (tysA cB cI cJ cZ cS) (wJ cB cI cJ cZ cS a b s) [.ref (a 41), .ref (b 0), .int x2] (fun u => u = (wJ cB cI cJ cZ cS a b s')) :=
  CV_of (cc := cX8_believe) (maxL := 7) (ret := none) (by decide) rfl (Nat.le_of_ble_eq_true rfl) (bkX8_believe _ _ hB)
theorem LX10_all_35 : Cond.fieldLink RX10 35 "GuessFerry" "now" "LGuessFerry$Standing;" ∈ wsX10_all := by decide +kernel
theorem LX10_all_63 : Cond.fieldLink RX10 63 "GuessFerry" "outlook" "LGuessFerry$Outlook;" ∈ wsX10_all := by decide +kernel
theorem LX10_all_E_X2_oddsOfAll : Cond.selects RX2 yX2_oddsOfAll yX2_oddsOfAll ∈ wsX10_all := by decide +kernel
theorem LX10_all_I_X2 : Cond.initialized RX2 ∈ wsX10_all := by decide +kernel
theorem LX10_all_N_X2_oddsOfAll : Cond.instanceMethod yX2_oddsOfAll ∈ wsX10_all := by decide +kernel
theorem inX10_all_X10 : ∀ w ∈ u_ws RX10 TX10 9, w ∈ wsX10_all := by decide +kernel
set_option maxHeartbeats 4000000 in
set_option maxRecDepth 100000 in
theorem bkX10_all {l : Launch} {dC : Nat → ClassId} {dI : Nat → Nat → Nat} {cB cI cJ cZ cS : ClassId} {a b b2 c0 : Nat → Nat} {rg sl : Nat → Option Nat} {as : List Value} {r : Int32} {s' : XS} (s : XS) (hB : kX10_all s = some (r, s')) : BlkI l yX10_all wsX10_all ({ frames := 3, cells := 0, slots := 0, locals := 71 }) cX10_all 1 (some .int) (dC, dI) (tysA cB cI cJ cZ cS) as 0 (wX cB cI cJ cZ cS a b b2 c0 rg sl s) [(0, .ref (c0 0))] [] (fun x u => x = r ∧ u = (wX cB cI cJ cZ cS a b b2 c0 rg sl s')) := by
  intro p e s0 m below meth c A E H locs ls hP hD hS hl
  obtain ⟨C, hr, hlocks, hA, hK, hN⟩ := id E
  obtain ⟨hx, hb, hml, hown, hts⟩ := id C
  unfold kX10_all at hB
  refine lv_aload_n hx hb dX10_all_0 rfl (lv_at hl 0 rfl) ?_
  refine q_get (v := .ref (a 36)) C inX10_all_X10 hK hP 0 rfl rfl 7 (by decide) rfl LX10_all_63 rfl dX10_all_1 ?_
  refine lv_aload_n hx hb dX10_all_4 rfl (lv_at hl 0 rfl) ?_
  refine q_get (v := .ref (b 0)) C inX10_all_X10 hK hP 0 rfl rfl 3 (by decide) rfl LX10_all_35 rfl dX10_all_5 ?_
  refine lv_iconst (v := (-1)) hx hb dX10_all_8 (by decide) ?_
  obtain ⟨q_, s1, hc, hB⟩ := bindI_inv hB
  refine q_goi (wr := ((wG cZ cS a b b2 c0 rg sl s.g) ++ (wD cI b2 s.t))) (va_runVN (As := [.ref (b 0), .int (-1)]) (rest := []) C (ckX2_oddsOfAll hc _) ⟨va_cnB 2 hts gX10_all_X2_oddsOfAll_n203 rfl rfl rfl (hN _ nwM_X10_203 rfl) (hts _ LX10_all_I_X2) (by decide +kernel) ⟨Nat.le_of_ble_eq_true rfl, Nat.le_of_ble_eq_true rfl⟩, hts _ LX10_all_N_X2_oddsOfAll, hts _ LX10_all_E_X2_oddsOfAll⟩ (q_preV hK hP (ci := 2) (q0 := 53) rfl rfl rfl (q_pre hN hK hP hD [11, 12, 13, 14, 15, 16, 17, 18, 19, 20, 21, 22, 23, 24, 25, 26, 27, 28, 29, 30, 31, 32, 33, 34, 35, 36, 37, 38, 39, 40, 41, 42, 43, 44, 45, 46, 47, 48, 49, 50, 51, 52, 53, 54, 55, 56, 57, 58, 59, 60, 61, 62, 63] rfl (by decide))) rfl rfl hl.1 rfl (lv_room (Nat.le_of_ble_eq_true rfl)) dX10_all_9 ⟨Nat.le_of_ble_eq_true rfl, Nat.le_of_ble_eq_true rfl⟩) hP hD hS hA [11, 12, 13, 14, 15, 16, 17, 18, 19, 20, 21, 22, 23, 24, 25, 26, 27, 28, 29, 30, 31, 32, 33, 34, 35, 36, 37, 38, 39, 40, 41, 42, 43, 44, 45, 46, 47, 48, 49, 50, 51, 52, 53, 54, 55, 56, 57, 58, 59, 60, 61, 62, 63] [0, 1, 2, 3, 4, 5, 6, 7, 8, 9, 10] rfl rfl (by decide) (by decide) (fun r2 w1 H locs hw hP hD hS => ?_)
  obtain ⟨hq_, hw⟩ := hw; subst hw; subst hq_
  obtain ⟨s3, hs4, hB⟩ := letS_inv hB
  have hP : va_P (dC, dI) vwCl (wX cB cI cJ cZ cS a b b2 c0 rg sl s3) H := by subst hs4; exact hP
  have hD : va_D A (wX cB cI cJ cZ cS a b b2 c0 rg sl s3) := by subst hs4; exact hD
  exact q_iret C hr hlocks hK hP hD hS (Nat.le_of_ble_eq_true rfl) (Nat.le_of_ble_eq_true rfl) dX10_all_12 (by cases hB; exact ⟨rfl, rfl⟩)
theorem ckX10_all {l : Launch} {dC : Nat → ClassId} {dI : Nat → Nat → Nat} {cB cI cJ cZ cS : ClassId} {a b b2 c0 : Nat → Nat} {rg sl : Nat → Option Nat} {r : Int32} {s' : XS} {s : XS} (hB : kX10_all s = some (r, s')) : CI l yX10_all wsX10_all ({ frames := 3, cells := 0, slots := 0, locals := 71 }) (dC, dI) (tysA cB cI cJ cZ cS) (wX cB cI cJ cZ cS a b b2 c0 rg sl s) [.ref (c0 0)] (fun x u => x = r ∧ u = (wX cB cI cJ cZ cS a b b2 c0 rg sl s')) :=
  CI_of (cc := cX10_all) (maxL := 1) (ret := (some .int)) (by decide) rfl (Nat.le_of_ble_eq_true rfl) (bkX10_all _ hB)
