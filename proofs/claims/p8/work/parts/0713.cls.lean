theorem ggX0_thereNow_X5_thingThere : GoodIn wsX0_thereNow wsX5_thingThere := gi_sub (fun w h => List.mem_cons_of_mem _ (List.mem_append_left _ (List.mem_append_left _ (List.mem_append_left _ (List.mem_append_right _ h))))) gd_wsX5_thingThere
set_option maxRecDepth 20000 in
theorem gX0_thereNow_X5_thingThere_n46 : GoodIn wsX0_thereNow (wsX5_thingThere) := ggX0_thereNow_X5_thingThere
theorem dX0_thereNow_0 : decode cX0_thereNow 0 = .ok (.aload_n 0, 1) := dc1_42 (by decide +kernel)
theorem dX0_thereNow_1 : decode cX0_thereNow 1 = .ok (.getfield 9, 3) := dcw_180 (by decide +kernel)
theorem dX0_thereNow_4 : decode cX0_thereNow 4 = .ok (.iload_n 2, 1) := dc1_28 (by decide +kernel)
theorem dX0_thereNow_5 : decode cX0_thereNow 5 = .ok (.aload_n 1, 1) := dc1_43 (by decide +kernel)
theorem dX0_thereNow_6 : decode cX0_thereNow 6 = .ok (.getfield 39, 3) := dcw_180 (by decide +kernel)
theorem dX0_thereNow_9 : decode cX0_thereNow 9 = .ok (.iload_n 2, 1) := dc1_28 (by decide +kernel)
theorem dX0_thereNow_10 : decode cX0_thereNow 10 = .ok (.iaload, 1) := dc1_46 (by decide +kernel)
theorem dX0_thereNow_11 : decode cX0_thereNow 11 = .ok (.aload_n 0, 1) := dc1_42 (by decide +kernel)
theorem dX0_thereNow_12 : decode cX0_thereNow 12 = .ok (.getfield 9, 3) := dcw_180 (by decide +kernel)
theorem dX0_thereNow_15 : decode cX0_thereNow 15 = .ok (.getfield 42, 3) := dcw_180 (by decide +kernel)
theorem dX0_thereNow_18 : decode cX0_thereNow 18 = .ok (.invokevirtual 46, 3) := dcw_182 (by decide +kernel)
theorem dX0_thereNow_21 : decode cX0_thereNow 21 = .ok (.ireturn, 1) := dc1_172 (by decide +kernel)
theorem ggX0_guessThere_X5_thingThere : GoodIn wsX0_guessThere wsX5_thingThere := gi_sub (fun w h => List.mem_cons_of_mem _ (List.mem_append_left _ (List.mem_append_left _ (List.mem_append_left _ (List.mem_append_right _ h))))) gd_wsX5_thingThere
set_option maxRecDepth 20000 in
theorem gX0_guessThere_X5_thingThere_n46 : GoodIn wsX0_guessThere (wsX5_thingThere) := ggX0_guessThere_X5_thingThere
theorem dX0_guessThere_0 : decode cX0_guessThere 0 = .ok (.iconst 0, 1) := dc1_3 (by decide +kernel)
theorem dX0_guessThere_1 : decode cX0_guessThere 1 = .ok (.istore_n 3, 1) := dc1_62 (by decide +kernel)
theorem dX0_guessThere_2 : decode cX0_guessThere 2 = .ok (.aload_n 0, 1) := dc1_42 (by decide +kernel)
theorem dX0_guessThere_3 : decode cX0_guessThere 3 = .ok (.getfield 9, 3) := dcw_180 (by decide +kernel)
theorem dX0_guessThere_6 : decode cX0_guessThere 6 = .ok (.getfield 50, 3) := dcw_180 (by decide +kernel)
theorem dX0_guessThere_9 : decode cX0_guessThere 9 = .ok (.iconst 1, 1) := dc1_4 (by decide +kernel)
theorem dX0_guessThere_10 : decode cX0_guessThere 10 = .ok (.isub, 1) := dc1_100 (by decide +kernel)
theorem dX0_guessThere_11 : decode cX0_guessThere 11 = .ok (.istore 4, 2) := dcu_54 (by decide +kernel)
theorem dX0_guessThere_13 : decode cX0_guessThere 13 = .ok (.iload 4, 2) := dcu_21 (by decide +kernel)
theorem dX0_guessThere_15 : decode cX0_guessThere 15 = .ok (.ifCond .lt 32, 3) := dcs_155 (n := 32) (by decide +kernel)
theorem dX0_guessThere_18 : decode cX0_guessThere 18 = .ok (.iload_n 3, 1) := dc1_29 (by decide +kernel)
theorem dX0_guessThere_19 : decode cX0_guessThere 19 = .ok (.bipush 6, 2) := dcb_16 (n := 6) (by decide +kernel)
theorem dX0_guessThere_21 : decode cX0_guessThere 21 = .ok (.imul, 1) := dc1_104 (by decide +kernel)
theorem dX0_guessThere_22 : decode cX0_guessThere 22 = .ok (.aload_n 0, 1) := dc1_42 (by decide +kernel)
theorem dX0_guessThere_23 : decode cX0_guessThere 23 = .ok (.getfield 9, 3) := dcw_180 (by decide +kernel)
theorem dX0_guessThere_26 : decode cX0_guessThere 26 = .ok (.iload 4, 2) := dcu_21 (by decide +kernel)
theorem dX0_guessThere_28 : decode cX0_guessThere 28 = .ok (.aload_n 1, 1) := dc1_43 (by decide +kernel)
theorem dX0_guessThere_29 : decode cX0_guessThere 29 = .ok (.getfield 39, 3) := dcw_180 (by decide +kernel)
theorem dX0_guessThere_32 : decode cX0_guessThere 32 = .ok (.iload 4, 2) := dcu_21 (by decide +kernel)
theorem dX0_guessThere_34 : decode cX0_guessThere 34 = .ok (.iaload, 1) := dc1_46 (by decide +kernel)
theorem dX0_guessThere_35 : decode cX0_guessThere 35 = .ok (.iload_n 2, 1) := dc1_28 (by decide +kernel)
theorem dX0_guessThere_36 : decode cX0_guessThere 36 = .ok (.invokevirtual 46, 3) := dcw_182 (by decide +kernel)
theorem dX0_guessThere_39 : decode cX0_guessThere 39 = .ok (.iadd, 1) := dc1_96 (by decide +kernel)
theorem dX0_guessThere_40 : decode cX0_guessThere 40 = .ok (.istore_n 3, 1) := dc1_62 (by decide +kernel)
theorem dX0_guessThere_41 : decode cX0_guessThere 41 = .ok (.iinc 4 (-1), 3) := dc_iinc (m := 255) (by decide +kernel)
theorem dX0_guessThere_44 : decode cX0_guessThere 44 = .ok (.goto (-31), 3) := dcs_167 (n := 65505) (by decide +kernel)
theorem dX0_guessThere_47 : decode cX0_guessThere 47 = .ok (.iload_n 3, 1) := dc1_29 (by decide +kernel)
theorem dX0_guessThere_48 : decode cX0_guessThere 48 = .ok (.ireturn, 1) := dc1_172 (by decide +kernel)
theorem ggX10_share_X5_hasWave : GoodIn wsX10_share wsX5_hasWave := gi_sub (fun w h => List.mem_cons_of_mem _ (List.mem_append_left _ (List.mem_append_left _ (List.mem_append_left _ (List.mem_append_left _ (List.mem_append_left _ (List.mem_append_right _ (List.mem_append_left _ h)))))))) gd_wsX5_hasWave
set_option maxRecDepth 20000 in
theorem gX10_share_X5_hasWave_n108 : GoodIn wsX10_share (wsX5_hasWave) := ggX10_share_X5_hasWave
theorem ggX10_share_X10_isThing : GoodIn wsX10_share wsX10_isThing := gi_sub (fun w h => List.mem_cons_of_mem _ (List.mem_append_left _ (List.mem_append_left _ (List.mem_append_left _ (List.mem_append_left _ (List.mem_append_left _ (List.mem_append_right _ (List.mem_append_right _ (List.mem_append_left _ h))))))))) gd_wsX10_isThing
set_option maxRecDepth 20000 in
theorem gX10_share_X10_isThing : GoodIn wsX10_share (va_wsS RX10 131 yX10_isThing wsX10_isThing) := goodIn_app (goodIn_of _ (by decide +kernel)) ggX10_share_X10_isThing
theorem ggX10_share_X0_mayBe : GoodIn wsX10_share wsX0_mayBe := gi_sub (fun w h => List.mem_cons_of_mem _ (List.mem_append_left _ (List.mem_append_left _ (List.mem_append_left _ (List.mem_append_left _ (List.mem_append_left _ (List.mem_append_right _ (List.mem_append_right _ (List.mem_append_right _ (List.mem_append_left _ h)))))))))) gd_wsX0_mayBe
set_option maxRecDepth 20000 in
theorem gX10_share_X0_mayBe_n111 : GoodIn wsX10_share (wsX0_mayBe) := ggX10_share_X0_mayBe
theorem ggX10_share_X10_has : GoodIn wsX10_share wsX10_has := gi_sub (fun w h => List.mem_cons_of_mem _ (List.mem_append_left _ (List.mem_append_left _ (List.mem_append_left _ (List.mem_append_left _ (List.mem_append_left _ (List.mem_append_right _ (List.mem_append_right _ (List.mem_append_right _ (List.mem_append_right _ (List.mem_append_left _ h))))))))))) gd_wsX10_has
set_option maxRecDepth 20000 in
theorem gX10_share_X10_has : GoodIn wsX10_share (va_wsS RX10 181 yX10_has wsX10_has) := goodIn_app (goodIn_of _ (by decide +kernel)) ggX10_share_X10_has
theorem ggX10_share_X5_oddsAt : GoodIn wsX10_share wsX5_oddsAt := gi_sub (fun w h => List.mem_cons_of_mem _ (List.mem_append_left _ (List.mem_append_left _ (List.mem_append_left _ (List.mem_append_left _ (List.mem_append_left _ (List.mem_append_right _ (List.mem_append_right _ (List.mem_append_right _ (List.mem_append_right _ (List.mem_append_right _ (List.mem_append_left _ h)))))))))))) gd_wsX5_oddsAt
set_option maxRecDepth 20000 in
theorem gX10_share_X5_oddsAt_n134 : GoodIn wsX10_share (wsX5_oddsAt) := ggX10_share_X5_oddsAt
theorem ggX10_share_X2_oddsOfAll : GoodIn wsX10_share wsX2_oddsOfAll := gi_sub (fun w h => List.mem_cons_of_mem _ (List.mem_append_left _ (List.mem_append_left _ (List.mem_append_left _ (List.mem_append_left _ (List.mem_append_left _ (List.mem_append_right _ (List.mem_append_right _ (List.mem_append_right _ (List.mem_append_right _ (List.mem_append_right _ (List.mem_append_right _ h)))))))))))) gd_wsX2_oddsOfAll
set_option maxRecDepth 20000 in
theorem gX10_share_X2_oddsOfAll_n203 : GoodIn wsX10_share (wsX2_oddsOfAll) := ggX10_share_X2_oddsOfAll
theorem dX10_share_0 : decode cX10_share 0 = .ok (.aload_n 0, 1) := dc1_42 (by decide +kernel)
theorem dX10_share_1 : decode cX10_share 1 = .ok (.getfield 19, 3) := dcw_180 (by decide +kernel)
theorem dX10_share_4 : decode cX10_share 4 = .ok (.iload_n 1, 1) := dc1_27 (by decide +kernel)
theorem dX10_share_5 : decode cX10_share 5 = .ok (.invokevirtual 108, 3) := dcw_182 (by decide +kernel)
theorem dX10_share_8 : decode cX10_share 8 = .ok (.ifCond .eq 10, 3) := dcs_153 (n := 10) (by decide +kernel)
theorem dX10_share_11 : decode cX10_share 11 = .ok (.iload_n 2, 1) := dc1_28 (by decide +kernel)
theorem dX10_share_12 : decode cX10_share 12 = .ok (.invokestatic 131, 3) := dcw_184 (by decide +kernel)
theorem dX10_share_15 : decode cX10_share 15 = .ok (.ifCond .ne 5, 3) := dcs_154 (n := 5) (by decide +kernel)
theorem dX10_share_18 : decode cX10_share 18 = .ok (.iconst (-1), 1) := dc1_2 (by decide +kernel)
theorem dX10_share_19 : decode cX10_share 19 = .ok (.ireturn, 1) := dc1_172 (by decide +kernel)
theorem dX10_share_20 : decode cX10_share 20 = .ok (.aload_n 0, 1) := dc1_42 (by decide +kernel)
theorem dX10_share_21 : decode cX10_share 21 = .ok (.getfield 54, 3) := dcw_180 (by decide +kernel)
theorem dX10_share_24 : decode cX10_share 24 = .ok (.aload_n 0, 1) := dc1_42 (by decide +kernel)
theorem dX10_share_25 : decode cX10_share 25 = .ok (.getfield 35, 3) := dcw_180 (by decide +kernel)
theorem dX10_share_28 : decode cX10_share 28 = .ok (.iload_n 1, 1) := dc1_27 (by decide +kernel)
theorem dX10_share_29 : decode cX10_share 29 = .ok (.invokevirtual 111, 3) := dcw_182 (by decide +kernel)
theorem dX10_share_32 : decode cX10_share 32 = .ok (.iload_n 2, 1) := dc1_28 (by decide +kernel)
theorem dX10_share_33 : decode cX10_share 33 = .ok (.invokestatic 181, 3) := dcw_184 (by decide +kernel)
theorem dX10_share_36 : decode cX10_share 36 = .ok (.ifCond .ne 5, 3) := dcs_154 (n := 5) (by decide +kernel)
theorem dX10_share_39 : decode cX10_share 39 = .ok (.iconst 0, 1) := dc1_3 (by decide +kernel)
theorem dX10_share_40 : decode cX10_share 40 = .ok (.ireturn, 1) := dc1_172 (by decide +kernel)
theorem dX10_share_41 : decode cX10_share 41 = .ok (.aload_n 0, 1) := dc1_42 (by decide +kernel)
theorem dX10_share_42 : decode cX10_share 42 = .ok (.getfield 19, 3) := dcw_180 (by decide +kernel)
theorem dX10_share_45 : decode cX10_share 45 = .ok (.iload_n 1, 1) := dc1_27 (by decide +kernel)
theorem dX10_share_46 : decode cX10_share 46 = .ok (.iload_n 2, 1) := dc1_28 (by decide +kernel)
theorem dX10_share_47 : decode cX10_share 47 = .ok (.invokevirtual 134, 3) := dcw_182 (by decide +kernel)
theorem dX10_share_50 : decode cX10_share 50 = .ok (.aload_n 0, 1) := dc1_42 (by decide +kernel)
theorem dX10_share_51 : decode cX10_share 51 = .ok (.getfield 63, 3) := dcw_180 (by decide +kernel)
theorem dX10_share_54 : decode cX10_share 54 = .ok (.aload_n 0, 1) := dc1_42 (by decide +kernel)
theorem dX10_share_55 : decode cX10_share 55 = .ok (.getfield 35, 3) := dcw_180 (by decide +kernel)
theorem dX10_share_58 : decode cX10_share 58 = .ok (.iload_n 1, 1) := dc1_27 (by decide +kernel)
theorem dX10_share_59 : decode cX10_share 59 = .ok (.invokevirtual 203, 3) := dcw_182 (by decide +kernel)
theorem dX10_share_62 : decode cX10_share 62 = .ok (.imul, 1) := dc1_104 (by decide +kernel)
theorem dX10_share_63 : decode cX10_share 63 = .ok (.ireturn, 1) := dc1_172 (by decide +kernel)
theorem ggX10_drawn_X5_hasWave : GoodIn wsX10_drawn wsX5_hasWave := gi_sub (fun w h => List.mem_cons_of_mem _ (List.mem_append_left _ (List.mem_append_left _ (List.mem_append_left _ (List.mem_append_right _ (List.mem_append_left _ h)))))) gd_wsX5_hasWave
set_option maxRecDepth 20000 in
theorem gX10_drawn_X5_hasWave_n108 : GoodIn wsX10_drawn (wsX5_hasWave) := ggX10_drawn_X5_hasWave
theorem ggX10_drawn_X5_thingThere : GoodIn wsX10_drawn wsX5_thingThere := gi_sub (fun w h => List.mem_cons_of_mem _ (List.mem_append_left _ (List.mem_append_left _ (List.mem_append_left _ (List.mem_append_right _ (List.mem_append_right _ (List.mem_append_left _ h))))))) gd_wsX5_thingThere
set_option maxRecDepth 20000 in
theorem gX10_drawn_X5_thingThere_n259 : GoodIn wsX10_drawn (wsX5_thingThere) := ggX10_drawn_X5_thingThere
theorem ggX10_drawn_J6_bitCount_0f7a4 : GoodIn wsX10_drawn wsJ6_bitCount_0f7a4 := gi_sub (fun w h => List.mem_cons_of_mem _ (List.mem_append_left _ (List.mem_append_left _ (List.mem_append_left _ (List.mem_append_right _ (List.mem_append_right _ (List.mem_append_right _ h))))))) gd_wsJ6_bitCount_0f7a4
set_option maxRecDepth 20000 in
theorem gX10_drawn_J6_bitCount_0f7a4 : GoodIn wsX10_drawn (va_wsS RX10 247 yJ6_bitCount_0f7a4 wsJ6_bitCount_0f7a4) := goodIn_app (goodIn_of _ (by decide +kernel)) ggX10_drawn_J6_bitCount_0f7a4
theorem dX10_drawn_0 : decode cX10_drawn 0 = .ok (.aload_n 0, 1) := dc1_42 (by decide +kernel)
theorem dX10_drawn_1 : decode cX10_drawn 1 = .ok (.getfield 19, 3) := dcw_180 (by decide +kernel)
theorem dX10_drawn_4 : decode cX10_drawn 4 = .ok (.iload_n 1, 1) := dc1_27 (by decide +kernel)
theorem dX10_drawn_5 : decode cX10_drawn 5 = .ok (.invokevirtual 108, 3) := dcw_182 (by decide +kernel)
theorem dX10_drawn_8 : decode cX10_drawn 8 = .ok (.ifCond .eq 14, 3) := dcs_153 (n := 14) (by decide +kernel)
theorem dX10_drawn_11 : decode cX10_drawn 11 = .ok (.iload_n 2, 1) := dc1_28 (by decide +kernel)
theorem dX10_drawn_12 : decode cX10_drawn 12 = .ok (.iconst 1, 1) := dc1_4 (by decide +kernel)
theorem dX10_drawn_13 : decode cX10_drawn 13 = .ok (.if_icmp .lt 9, 3) := dcs_161 (n := 9) (by decide +kernel)
theorem dX10_drawn_16 : decode cX10_drawn 16 = .ok (.iload_n 2, 1) := dc1_28 (by decide +kernel)
theorem dX10_drawn_17 : decode cX10_drawn 17 = .ok (.bipush 20, 2) := dcb_16 (n := 20) (by decide +kernel)
theorem dX10_drawn_19 : decode cX10_drawn 19 = .ok (.if_icmp .le 5, 3) := dcs_164 (n := 5) (by decide +kernel)
theorem dX10_drawn_22 : decode cX10_drawn 22 = .ok (.iconst (-1), 1) := dc1_2 (by decide +kernel)
theorem dX10_drawn_23 : decode cX10_drawn 23 = .ok (.ireturn, 1) := dc1_172 (by decide +kernel)
theorem dX10_drawn_24 : decode cX10_drawn 24 = .ok (.iconst 0, 1) := dc1_3 (by decide +kernel)
theorem dX10_drawn_25 : decode cX10_drawn 25 = .ok (.istore_n 3, 1) := dc1_62 (by decide +kernel)
theorem dX10_drawn_26 : decode cX10_drawn 26 = .ok (.iconst 0, 1) := dc1_3 (by decide +kernel)
theorem dX10_drawn_27 : decode cX10_drawn 27 = .ok (.istore 4, 2) := dcu_54 (by decide +kernel)
theorem dX10_drawn_29 : decode cX10_drawn 29 = .ok (.iload 4, 2) := dcu_21 (by decide +kernel)
theorem dX10_drawn_31 : decode cX10_drawn 31 = .ok (.iload_n 2, 1) := dc1_28 (by decide +kernel)
theorem dX10_drawn_32 : decode cX10_drawn 32 = .ok (.if_icmp .ge 41, 3) := dcs_162 (n := 41) (by decide +kernel)
theorem dX10_drawn_35 : decode cX10_drawn 35 = .ok (.iload_n 3, 1) := dc1_29 (by decide +kernel)
theorem dX10_drawn_36 : decode cX10_drawn 36 = .ok (.iconst 1, 1) := dc1_4 (by decide +kernel)
theorem dX10_drawn_37 : decode cX10_drawn 37 = .ok (.aload_n 0, 1) := dc1_42 (by decide +kernel)
theorem dX10_drawn_38 : decode cX10_drawn 38 = .ok (.getfield 19, 3) := dcw_180 (by decide +kernel)
theorem dX10_drawn_41 : decode cX10_drawn 41 = .ok (.iload_n 1, 1) := dc1_27 (by decide +kernel)
theorem dX10_drawn_42 : decode cX10_drawn 42 = .ok (.aload_n 0, 1) := dc1_42 (by decide +kernel)
theorem dX10_drawn_43 : decode cX10_drawn 43 = .ok (.getfield 35, 3) := dcw_180 (by decide +kernel)
theorem dX10_drawn_46 : decode cX10_drawn 46 = .ok (.getfield 122, 3) := dcw_180 (by decide +kernel)
theorem dX10_drawn_49 : decode cX10_drawn 49 = .ok (.iload_n 1, 1) := dc1_27 (by decide +kernel)
theorem dX10_drawn_50 : decode cX10_drawn 50 = .ok (.iaload, 1) := dc1_46 (by decide +kernel)
theorem dX10_drawn_51 : decode cX10_drawn 51 = .ok (.aload_n 0, 1) := dc1_42 (by decide +kernel)
theorem dX10_drawn_52 : decode cX10_drawn 52 = .ok (.getfield 19, 3) := dcw_180 (by decide +kernel)
theorem dX10_drawn_55 : decode cX10_drawn 55 = .ok (.getfield 253, 3) := dcw_180 (by decide +kernel)
theorem dX10_drawn_58 : decode cX10_drawn 58 = .ok (.iload 4, 2) := dcu_21 (by decide +kernel)
theorem dX10_drawn_60 : decode cX10_drawn 60 = .ok (.iadd, 1) := dc1_96 (by decide +kernel)
theorem dX10_drawn_61 : decode cX10_drawn 61 = .ok (.invokevirtual 259, 3) := dcw_182 (by decide +kernel)
theorem dX10_drawn_64 : decode cX10_drawn 64 = .ok (.ishl, 1) := dc1_120 (by decide +kernel)
theorem dX10_drawn_65 : decode cX10_drawn 65 = .ok (.ior, 1) := dc1_128 (by decide +kernel)
theorem dX10_drawn_66 : decode cX10_drawn 66 = .ok (.istore_n 3, 1) := dc1_62 (by decide +kernel)
theorem dX10_drawn_67 : decode cX10_drawn 67 = .ok (.iinc 4 1, 3) := dc_iinc (m := 1) (by decide +kernel)
theorem dX10_drawn_70 : decode cX10_drawn 70 = .ok (.goto (-41), 3) := dcs_167 (n := 65495) (by decide +kernel)
theorem dX10_drawn_73 : decode cX10_drawn 73 = .ok (.iload_n 3, 1) := dc1_29 (by decide +kernel)
theorem dX10_drawn_74 : decode cX10_drawn 74 = .ok (.invokestatic 247, 3) := dcw_184 (by decide +kernel)
theorem dX10_drawn_77 : decode cX10_drawn 77 = .ok (.ireturn, 1) := dc1_172 (by decide +kernel)
theorem ggX10_fit_X8_areSuch : GoodIn wsX10_fit wsX8_areSuch := gi_sub (fun w h => List.mem_cons_of_mem _ (List.mem_append_left _ (List.mem_append_left _ (List.mem_append_left _ (List.mem_append_left _ (List.mem_append_left _ (List.mem_append_right _ (List.mem_append_left _ h)))))))) gd_wsX8_areSuch
set_option maxRecDepth 20000 in
theorem gX10_fit_X8_areSuch_n266 : GoodIn wsX10_fit (wsX8_areSuch) := ggX10_fit_X8_areSuch
theorem ggX10_fit_X8_believe : GoodIn wsX10_fit wsX8_believe := gi_sub (fun w h => List.mem_cons_of_mem _ (List.mem_append_left _ (List.mem_append_left _ (List.mem_append_left _ (List.mem_append_left _ (List.mem_append_left _ (List.mem_append_right _ (List.mem_append_right _ (List.mem_append_left _ h))))))))) gd_wsX8_believe
set_option maxRecDepth 20000 in
theorem gX10_fit_X8_believe_n269 : GoodIn wsX10_fit (wsX8_believe) := ggX10_fit_X8_believe
theorem ggX10_fit_X8_fitting : GoodIn wsX10_fit wsX8_fitting := gi_sub (fun w h => List.mem_cons_of_mem _ (List.mem_append_left _ (List.mem_append_left _ (List.mem_append_left _ (List.mem_append_left _ (List.mem_append_left _ (List.mem_append_right _ (List.mem_append_right _ (List.mem_append_right _ h))))))))) gd_wsX8_fitting
set_option maxRecDepth 20000 in
theorem gX10_fit_X8_fitting_n272 : GoodIn wsX10_fit (wsX8_fitting) := ggX10_fit_X8_fitting
theorem dX10_fit_0 : decode cX10_fit 0 = .ok (.aload_n 0, 1) := dc1_42 (by decide +kernel)
theorem dX10_fit_1 : decode cX10_fit 1 = .ok (.getfield 70, 3) := dcw_180 (by decide +kernel)
theorem dX10_fit_4 : decode cX10_fit 4 = .ok (.iload_n 1, 1) := dc1_27 (by decide +kernel)
theorem dX10_fit_5 : decode cX10_fit 5 = .ok (.iload_n 2, 1) := dc1_28 (by decide +kernel)
theorem dX10_fit_6 : decode cX10_fit 6 = .ok (.invokevirtual 266, 3) := dcw_182 (by decide +kernel)
theorem dX10_fit_9 : decode cX10_fit 9 = .ok (.ifCond .eq 12, 3) := dcs_153 (n := 12) (by decide +kernel)
theorem dX10_fit_12 : decode cX10_fit 12 = .ok (.iload_n 3, 1) := dc1_29 (by decide +kernel)
theorem dX10_fit_13 : decode cX10_fit 13 = .ok (.ifCond .lt 8, 3) := dcs_155 (n := 8) (by decide +kernel)
theorem dX10_fit_16 : decode cX10_fit 16 = .ok (.iload_n 3, 1) := dc1_29 (by decide +kernel)
theorem dX10_fit_17 : decode cX10_fit 17 = .ok (.iconst 1, 1) := dc1_4 (by decide +kernel)
theorem dX10_fit_18 : decode cX10_fit 18 = .ok (.if_icmp .le 5, 3) := dcs_164 (n := 5) (by decide +kernel)
theorem dX10_fit_21 : decode cX10_fit 21 = .ok (.iconst (-1), 1) := dc1_2 (by decide +kernel)
theorem dX10_fit_22 : decode cX10_fit 22 = .ok (.ireturn, 1) := dc1_172 (by decide +kernel)
theorem dX10_fit_23 : decode cX10_fit 23 = .ok (.aload_n 0, 1) := dc1_42 (by decide +kernel)
theorem dX10_fit_24 : decode cX10_fit 24 = .ok (.getfield 70, 3) := dcw_180 (by decide +kernel)
theorem dX10_fit_27 : decode cX10_fit 27 = .ok (.aload_n 0, 1) := dc1_42 (by decide +kernel)
theorem dX10_fit_28 : decode cX10_fit 28 = .ok (.getfield 35, 3) := dcw_180 (by decide +kernel)
theorem dX10_fit_31 : decode cX10_fit 31 = .ok (.iload_n 1, 1) := dc1_27 (by decide +kernel)
theorem dX10_fit_32 : decode cX10_fit 32 = .ok (.invokevirtual 269, 3) := dcw_182 (by decide +kernel)
theorem dX10_fit_35 : decode cX10_fit 35 = .ok (.aload_n 0, 1) := dc1_42 (by decide +kernel)
theorem dX10_fit_36 : decode cX10_fit 36 = .ok (.getfield 70, 3) := dcw_180 (by decide +kernel)
theorem dX10_fit_39 : decode cX10_fit 39 = .ok (.iload_n 2, 1) := dc1_28 (by decide +kernel)
theorem dX10_fit_40 : decode cX10_fit 40 = .ok (.iload_n 3, 1) := dc1_29 (by decide +kernel)
theorem dX10_fit_41 : decode cX10_fit 41 = .ok (.iconst 1, 1) := dc1_4 (by decide +kernel)
theorem dX10_fit_42 : decode cX10_fit 42 = .ok (.if_icmp .ne 7, 3) := dcs_160 (n := 7) (by decide +kernel)
theorem dX10_fit_45 : decode cX10_fit 45 = .ok (.iconst 1, 1) := dc1_4 (by decide +kernel)
theorem dX10_fit_46 : decode cX10_fit 46 = .ok (.goto 4, 3) := dcs_167 (n := 4) (by decide +kernel)
theorem dX10_fit_49 : decode cX10_fit 49 = .ok (.iconst 0, 1) := dc1_3 (by decide +kernel)
theorem dX10_fit_50 : decode cX10_fit 50 = .ok (.invokevirtual 272, 3) := dcw_182 (by decide +kernel)
theorem dX10_fit_53 : decode cX10_fit 53 = .ok (.ireturn, 1) := dc1_172 (by decide +kernel)
theorem ggX10_lie_X8_areSuch : GoodIn wsX10_lie wsX8_areSuch := gi_sub (fun w h => List.mem_cons_of_mem _ (List.mem_append_left _ (List.mem_append_left _ (List.mem_append_left _ (List.mem_append_left _ (List.mem_append_left _ (List.mem_append_right _ (List.mem_append_left _ h)))))))) gd_wsX8_areSuch
set_option maxRecDepth 20000 in
theorem gX10_lie_X8_areSuch_n266 : GoodIn wsX10_lie (wsX8_areSuch) := ggX10_lie_X8_areSuch
theorem ggX10_lie_X8_believe : GoodIn wsX10_lie wsX8_believe := gi_sub (fun w h => List.mem_cons_of_mem _ (List.mem_append_left _ (List.mem_append_left _ (List.mem_append_left _ (List.mem_append_left _ (List.mem_append_left _ (List.mem_append_right _ (List.mem_append_right _ (List.mem_append_left _ h))))))))) gd_wsX8_believe
set_option maxRecDepth 20000 in
theorem gX10_lie_X8_believe_n269 : GoodIn wsX10_lie (wsX8_believe) := ggX10_lie_X8_believe
theorem ggX10_lie_X8_liars : GoodIn wsX10_lie wsX8_liars := gi_sub (fun w h => List.mem_cons_of_mem _ (List.mem_append_left _ (List.mem_append_left _ (List.mem_append_left _ (List.mem_append_left _ (List.mem_append_left _ (List.mem_append_right _ (List.mem_append_right _ (List.mem_append_right _ h))))))))) gd_wsX8_liars
set_option maxRecDepth 20000 in
theorem gX10_lie_X8_liars_n276 : GoodIn wsX10_lie (wsX8_liars) := ggX10_lie_X8_liars
theorem dX10_lie_0 : decode cX10_lie 0 = .ok (.aload_n 0, 1) := dc1_42 (by decide +kernel)
theorem dX10_lie_1 : decode cX10_lie 1 = .ok (.getfield 70, 3) := dcw_180 (by decide +kernel)
theorem dX10_lie_4 : decode cX10_lie 4 = .ok (.iload_n 1, 1) := dc1_27 (by decide +kernel)
theorem dX10_lie_5 : decode cX10_lie 5 = .ok (.iload_n 2, 1) := dc1_28 (by decide +kernel)
theorem dX10_lie_6 : decode cX10_lie 6 = .ok (.invokevirtual 266, 3) := dcw_182 (by decide +kernel)
theorem dX10_lie_9 : decode cX10_lie 9 = .ok (.ifCond .ne 5, 3) := dcs_154 (n := 5) (by decide +kernel)
theorem dX10_lie_12 : decode cX10_lie 12 = .ok (.iconst (-1), 1) := dc1_2 (by decide +kernel)
theorem dX10_lie_13 : decode cX10_lie 13 = .ok (.ireturn, 1) := dc1_172 (by decide +kernel)
theorem dX10_lie_14 : decode cX10_lie 14 = .ok (.aload_n 0, 1) := dc1_42 (by decide +kernel)
theorem dX10_lie_15 : decode cX10_lie 15 = .ok (.getfield 70, 3) := dcw_180 (by decide +kernel)
theorem dX10_lie_18 : decode cX10_lie 18 = .ok (.aload_n 0, 1) := dc1_42 (by decide +kernel)
theorem dX10_lie_19 : decode cX10_lie 19 = .ok (.getfield 35, 3) := dcw_180 (by decide +kernel)
theorem dX10_lie_22 : decode cX10_lie 22 = .ok (.iload_n 1, 1) := dc1_27 (by decide +kernel)
theorem dX10_lie_23 : decode cX10_lie 23 = .ok (.invokevirtual 269, 3) := dcw_182 (by decide +kernel)
theorem dX10_lie_26 : decode cX10_lie 26 = .ok (.aload_n 0, 1) := dc1_42 (by decide +kernel)
theorem dX10_lie_27 : decode cX10_lie 27 = .ok (.getfield 70, 3) := dcw_180 (by decide +kernel)
theorem dX10_lie_30 : decode cX10_lie 30 = .ok (.iload_n 1, 1) := dc1_27 (by decide +kernel)
theorem dX10_lie_31 : decode cX10_lie 31 = .ok (.iload_n 2, 1) := dc1_28 (by decide +kernel)
theorem dX10_lie_32 : decode cX10_lie 32 = .ok (.invokevirtual 276, 3) := dcw_182 (by decide +kernel)
theorem dX10_lie_35 : decode cX10_lie 35 = .ok (.ireturn, 1) := dc1_172 (by decide +kernel)
theorem ggX10_ask_X8_areSuch : GoodIn wsX10_ask wsX8_areSuch := gi_sub (fun w h => List.mem_cons_of_mem _ (List.mem_append_left _ (List.mem_append_left _ (List.mem_append_left _ (List.mem_append_left _ (List.mem_append_left _ (List.mem_append_right _ (List.mem_append_left _ h)))))))) gd_wsX8_areSuch
set_option maxRecDepth 20000 in
theorem gX10_ask_X8_areSuch_n266 : GoodIn wsX10_ask (wsX8_areSuch) := ggX10_ask_X8_areSuch
theorem ggX10_ask_X8_believe : GoodIn wsX10_ask wsX8_believe := gi_sub (fun w h => List.mem_cons_of_mem _ (List.mem_append_left _ (List.mem_append_left _ (List.mem_append_left _ (List.mem_append_left _ (List.mem_append_left _ (List.mem_append_right _ (List.mem_append_right _ (List.mem_append_left _ h))))))))) gd_wsX8_believe
set_option maxRecDepth 20000 in
theorem gX10_ask_X8_believe_n269 : GoodIn wsX10_ask (wsX8_believe) := ggX10_ask_X8_believe
theorem ggX10_ask_X8_waveToAsk : GoodIn wsX10_ask wsX8_waveToAsk := gi_sub (fun w h => List.mem_cons_of_mem _ (List.mem_append_left _ (List.mem_append_left _ (List.mem_append_left _ (List.mem_append_left _ (List.mem_append_left _ (List.mem_append_right _ (List.mem_append_right _ (List.mem_append_right _ h))))))))) gd_wsX8_waveToAsk
set_option maxRecDepth 20000 in
theorem gX10_ask_X8_waveToAsk_n279 : GoodIn wsX10_ask (wsX8_waveToAsk) := ggX10_ask_X8_waveToAsk
theorem dX10_ask_0 : decode cX10_ask 0 = .ok (.aload_n 0, 1) := dc1_42 (by decide +kernel)
theorem dX10_ask_1 : decode cX10_ask 1 = .ok (.getfield 70, 3) := dcw_180 (by decide +kernel)
theorem dX10_ask_4 : decode cX10_ask 4 = .ok (.iload_n 1, 1) := dc1_27 (by decide +kernel)
theorem dX10_ask_5 : decode cX10_ask 5 = .ok (.iload_n 2, 1) := dc1_28 (by decide +kernel)
theorem dX10_ask_6 : decode cX10_ask 6 = .ok (.invokevirtual 266, 3) := dcw_182 (by decide +kernel)
theorem dX10_ask_9 : decode cX10_ask 9 = .ok (.ifCond .ne 5, 3) := dcs_154 (n := 5) (by decide +kernel)
theorem dX10_ask_12 : decode cX10_ask 12 = .ok (.iconst (-1), 1) := dc1_2 (by decide +kernel)
theorem dX10_ask_13 : decode cX10_ask 13 = .ok (.ireturn, 1) := dc1_172 (by decide +kernel)
theorem dX10_ask_14 : decode cX10_ask 14 = .ok (.aload_n 0, 1) := dc1_42 (by decide +kernel)
theorem dX10_ask_15 : decode cX10_ask 15 = .ok (.getfield 70, 3) := dcw_180 (by decide +kernel)
theorem dX10_ask_18 : decode cX10_ask 18 = .ok (.aload_n 0, 1) := dc1_42 (by decide +kernel)
theorem dX10_ask_19 : decode cX10_ask 19 = .ok (.getfield 35, 3) := dcw_180 (by decide +kernel)
theorem dX10_ask_22 : decode cX10_ask 22 = .ok (.iload_n 1, 1) := dc1_27 (by decide +kernel)
theorem dX10_ask_23 : decode cX10_ask 23 = .ok (.invokevirtual 269, 3) := dcw_182 (by decide +kernel)
theorem dX10_ask_26 : decode cX10_ask 26 = .ok (.aload_n 0, 1) := dc1_42 (by decide +kernel)
theorem dX10_ask_27 : decode cX10_ask 27 = .ok (.getfield 70, 3) := dcw_180 (by decide +kernel)
theorem dX10_ask_30 : decode cX10_ask 30 = .ok (.iload_n 2, 1) := dc1_28 (by decide +kernel)
theorem dX10_ask_31 : decode cX10_ask 31 = .ok (.invokevirtual 279, 3) := dcw_182 (by decide +kernel)
theorem dX10_ask_34 : decode cX10_ask 34 = .ok (.ireturn, 1) := dc1_172 (by decide +kernel)
theorem LX10_share_19 : Cond.fieldLink RX10 19 "GuessFerry" "sound" "LGuessFerry$Sound;" ∈ wsX10_share := by decide +kernel
theorem LX10_share_35 : Cond.fieldLink RX10 35 "GuessFerry" "now" "LGuessFerry$Standing;" ∈ wsX10_share := by decide +kernel
theorem LX10_share_54 : Cond.fieldLink RX10 54 "GuessFerry" "crossing" "LGuessFerry$Crossing;" ∈ wsX10_share := by decide +kernel
theorem LX10_share_63 : Cond.fieldLink RX10 63 "GuessFerry" "outlook" "LGuessFerry$Outlook;" ∈ wsX10_share := by decide +kernel
theorem LX10_share_E_X0_mayBe : Cond.selects RX0 yX0_mayBe yX0_mayBe ∈ wsX10_share := by decide +kernel
theorem LX10_share_E_X2_oddsOfAll : Cond.selects RX2 yX2_oddsOfAll yX2_oddsOfAll ∈ wsX10_share := by decide +kernel
theorem LX10_share_E_X5_hasWave : Cond.selects RX5 yX5_hasWave yX5_hasWave ∈ wsX10_share := by decide +kernel
theorem LX10_share_E_X5_oddsAt : Cond.selects RX5 yX5_oddsAt yX5_oddsAt ∈ wsX10_share := by decide +kernel
theorem LX10_share_I_X0 : Cond.initialized RX0 ∈ wsX10_share := by decide +kernel
theorem LX10_share_I_X2 : Cond.initialized RX2 ∈ wsX10_share := by decide +kernel
theorem LX10_share_I_X5 : Cond.initialized RX5 ∈ wsX10_share := by decide +kernel
theorem LX10_share_N_X0_mayBe : Cond.instanceMethod yX0_mayBe ∈ wsX10_share := by decide +kernel
theorem LX10_share_N_X2_oddsOfAll : Cond.instanceMethod yX2_oddsOfAll ∈ wsX10_share := by decide +kernel
theorem LX10_share_N_X5_hasWave : Cond.instanceMethod yX5_hasWave ∈ wsX10_share := by decide +kernel
theorem LX10_share_N_X5_oddsAt : Cond.instanceMethod yX5_oddsAt ∈ wsX10_share := by decide +kernel
theorem inX10_share_X10 : ∀ w ∈ u_ws RX10 TX10 9, w ∈ wsX10_share := by decide +kernel
set_option maxHeartbeats 4000000 in
set_option maxRecDepth 100000 in
theorem bkX10_share {l : Launch} {dC : Nat → ClassId} {dI : Nat → Nat → Nat} {cB cI cJ cZ cS : ClassId} {a b b2 c0 : Nat → Nat} {rg sl : Nat → Option Nat} {as : List Value} {r : Int32} {s' : XS} (s : XS) (x1 : Int32) (x2 : Int32) (hB : kX10_share s x1 x2 = some (r, s')) : BlkI l yX10_share wsX10_share ({ frames := 3, cells := 0, slots := 0, locals := 71 }) cX10_share 3 (some .int) (dC, dI) (tysA cB cI cJ cZ cS) as 0 (wX cB cI cJ cZ cS a b b2 c0 rg sl s) [(0, .ref (c0 0)), (1, .int x1), (2, .int x2)] [] (fun x u => x = r ∧ u = (wX cB cI cJ cZ cS a b b2 c0 rg sl s')) := by
  intro p e s0 m below meth c A E H locs ls hP hD hS hl
  obtain ⟨C, hr, hlocks, hA, hK, hN⟩ := id E
  obtain ⟨hx, hb, hml, hown, hts⟩ := id C
  unfold kX10_share at hB
  refine lv_aload_n hx hb dX10_share_0 rfl (lv_at hl 0 rfl) ?_
  refine q_get (v := .ref (a 2)) C inX10_share_X10 hK hP 0 rfl rfl 1 (by decide) rfl LX10_share_19 rfl dX10_share_1 ?_
  refine lv_iload_n hx hb dX10_share_4 rfl (lv_at hl 1 rfl) ?_
  obtain ⟨q_, s1, hc, hB⟩ := bindI_inv hB
  refine q_goi (wr := ((wG cZ cS a b b2 c0 rg sl s.g) ++ (wD cI b2 s.t) ++ (wD cI b s.n))) (va_runVN (As := [.int x1]) (rest := []) C (ckX5_hasWave hc _) ⟨va_cnB 1 hts gX10_share_X5_hasWave_n108 rfl rfl rfl (hN _ nwM_X10_108 rfl) (hts _ LX10_share_I_X5) (by decide +kernel) ⟨Nat.le_of_ble_eq_true rfl, Nat.le_of_ble_eq_true rfl⟩, hts _ LX10_share_N_X5_hasWave, hts _ LX10_share_E_X5_hasWave⟩ (q_preV hK hP (ci := 5) (q0 := 19) rfl rfl rfl (q_pre hN hK hP hD [17, 18, 19, 20, 21, 22, 23, 24, 25, 26, 27, 28, 29, 30, 31, 32, 33, 34, 35, 36, 37, 38, 39, 40, 41, 42, 43, 44, 45, 46, 47, 48, 49, 50, 51, 52, 53, 54, 55, 56, 57, 58, 59, 60, 61, 62, 63] rfl (by decide))) rfl rfl hl.1 rfl (lv_room (Nat.le_of_ble_eq_true rfl)) dX10_share_5 ⟨Nat.le_of_ble_eq_true rfl, Nat.le_of_ble_eq_true rfl⟩) hP hD hS hA [17, 18, 19, 20, 21, 22, 23, 24, 25, 26, 27, 28, 29, 30, 31, 32, 33, 34, 35, 36, 37, 38, 39, 40, 41, 42, 43, 44, 45, 46, 47, 48, 49, 50, 51, 52, 53, 54, 55, 56, 57, 58, 59, 60, 61, 62, 63] [0, 1, 2, 3, 4, 5, 6, 7, 8, 9, 10, 11, 12, 13, 14, 15, 16] rfl rfl (by decide) (by decide) (fun r2 w1 H locs hw hP hD hS => ?_)
  obtain ⟨hq_, hw⟩ := hw; subst hw; subst hq_
  obtain ⟨s3, hs4, hB⟩ := letS_inv hB
  have hP : va_P (dC, dI) vwCl (wX cB cI cJ cZ cS a b b2 c0 rg sl s3) H := by subst hs4; exact hP
  have hD : va_D A (wX cB cI cJ cZ cS a b b2 c0 rg sl s3) := by subst hs4; exact hD
  refine lv_if_eq (tgt := 18) hx hb dX10_share_8 (by decide) (fun c5 => ?_) (fun c5 => ?_)
  · have hB := if_p hB c5
    refine lv_iconst (v := (-1)) hx hb dX10_share_18 (by decide) ?_
    exact q_iret C hr hlocks hK hP hD hS (Nat.le_of_ble_eq_true rfl) (Nat.le_of_ble_eq_true rfl) dX10_share_19 (by cases hB; exact ⟨rfl, rfl⟩)
  · have hB := if_n hB c5
    refine lv_iload_n hx hb dX10_share_11 rfl (lv_at hl 2 rfl) ?_
    obtain ⟨q_, hc, hB⟩ := bindP_inv hB
    refine q_goi0 (va_runS (As := [.int x2]) (rest := []) C (ckX10_isThing hc _) (va_cwS 1 hts gX10_share_X10_isThing rfl rfl rfl (by decide +kernel) ⟨Nat.le_of_ble_eq_true rfl, Nat.le_of_ble_eq_true rfl⟩) (q_pre0 hN hK) rfl rfl hl.1 rfl (lv_room (Nat.le_of_ble_eq_true rfl)) dX10_share_12 ⟨Nat.le_of_ble_eq_true rfl, Nat.le_of_ble_eq_true rfl⟩) hP hD hS hA (fun r6 w1 H locs hw hP hS => ?_)
    subst hw
    refine lv_if_ne (tgt := 20) hx hb dX10_share_15 (by decide) (fun c7 => ?_) (fun c7 => ?_)
    · have hB := if_n hB c7
      refine lv_aload_n hx hb dX10_share_20 rfl (lv_at hl 0 rfl) ?_
      refine q_get (v := .ref (a 35)) C inX10_share_X10 hK hP 0 rfl rfl 6 (by decide) rfl LX10_share_54 rfl dX10_share_21 ?_
      refine lv_aload_n hx hb dX10_share_24 rfl (lv_at hl 0 rfl) ?_
      refine q_get (v := .ref (b 0)) C inX10_share_X10 hK hP 0 rfl rfl 3 (by decide) rfl LX10_share_35 rfl dX10_share_25 ?_
      refine lv_iload_n hx hb dX10_share_28 rfl (lv_at hl 1 rfl) ?_
      obtain ⟨q_, s8, hc, hB⟩ := bindI_inv hB
      refine q_goi (wr := ((wG cZ cS a b b2 c0 rg sl s3.g) ++ (wD cI b2 s3.t))) (va_runVN (As := [.ref (b 0), .int x1]) (rest := []) C (ckX0_mayBe hc _) ⟨va_cnB 2 hts gX10_share_X0_mayBe_n111 rfl rfl rfl (hN _ nwM_X10_111 rfl) (hts _ LX10_share_I_X0) (by decide +kernel) ⟨Nat.le_of_ble_eq_true rfl, Nat.le_of_ble_eq_true rfl⟩, hts _ LX10_share_N_X0_mayBe, hts _ LX10_share_E_X0_mayBe⟩ (q_preV hK hP (ci := 0) (q0 := 52) rfl rfl rfl (q_pre hN hK hP hD [11, 12, 13, 14, 15, 16, 17, 18, 19, 20, 21, 22, 23, 24, 25, 26, 27, 28, 29, 30, 31, 32, 33, 34, 35, 36, 37, 38, 39, 40, 41, 42, 43, 44, 45, 46, 47, 48, 49, 50, 51, 52, 53, 54, 55, 56, 57, 58, 59, 60, 61, 62, 63] rfl (by decide))) rfl rfl hl.1 rfl (lv_room (Nat.le_of_ble_eq_true rfl)) dX10_share_29 ⟨Nat.le_of_ble_eq_true rfl, Nat.le_of_ble_eq_true rfl⟩) hP hD hS hA [11, 12, 13, 14, 15, 16, 17, 18, 19, 20, 21, 22, 23, 24, 25, 26, 27, 28, 29, 30, 31, 32, 33, 34, 35, 36, 37, 38, 39, 40, 41, 42, 43, 44, 45, 46, 47, 48, 49, 50, 51, 52, 53, 54, 55, 56, 57, 58, 59, 60, 61, 62, 63] [0, 1, 2, 3, 4, 5, 6, 7, 8, 9, 10] rfl rfl (by decide) (by decide) (fun r9 w1 H locs hw hP hD hS => ?_)
      obtain ⟨hq_, hw⟩ := hw; subst hw; subst hq_
      obtain ⟨s10, hs11, hB⟩ := letS_inv hB
      have hP : va_P (dC, dI) vwCl (wX cB cI cJ cZ cS a b b2 c0 rg sl s10) H := by subst hs11; exact hP
      have hD : va_D A (wX cB cI cJ cZ cS a b b2 c0 rg sl s10) := by subst hs11; exact hD
      refine lv_iload_n hx hb dX10_share_32 rfl (lv_at hl 2 rfl) ?_
      obtain ⟨q_, hc, hB⟩ := bindP_inv hB
      refine q_goi0 (va_runS (As := [.int r9, .int x2]) (rest := []) C (ckX10_has hc _) (va_cwS 2 hts gX10_share_X10_has rfl rfl rfl (by decide +kernel) ⟨Nat.le_of_ble_eq_true rfl, Nat.le_of_ble_eq_true rfl⟩) (q_pre0 hN hK) rfl rfl hl.1 rfl (lv_room (Nat.le_of_ble_eq_true rfl)) dX10_share_33 ⟨Nat.le_of_ble_eq_true rfl, Nat.le_of_ble_eq_true rfl⟩) hP hD hS hA (fun r12 w1 H locs hw hP hS => ?_)
      subst hw
      refine lv_if_ne (tgt := 41) hx hb dX10_share_36 (by decide) (fun c13 => ?_) (fun c13 => ?_)
      · have hB := if_n hB c13
        refine lv_aload_n hx hb dX10_share_41 rfl (lv_at hl 0 rfl) ?_
        refine q_get (v := .ref (a 2)) C inX10_share_X10 hK hP 0 rfl rfl 1 (by decide) rfl LX10_share_19 rfl dX10_share_42 ?_
        refine lv_iload_n hx hb dX10_share_45 rfl (lv_at hl 1 rfl) ?_
        refine lv_iload_n hx hb dX10_share_46 rfl (lv_at hl 2 rfl) ?_
        obtain ⟨q_, s14, hc, hB⟩ := bindI_inv hB
        refine q_goi (wr := ((wG cZ cS a b b2 c0 rg sl s10.g) ++ (wD cI b2 s10.t) ++ (wD cI b s10.n))) (va_runVN (As := [.int x1, .int x2]) (rest := []) C (ckX5_oddsAt hc _) ⟨va_cnB 2 hts gX10_share_X5_oddsAt_n134 rfl rfl rfl (hN _ nwM_X10_134 rfl) (hts _ LX10_share_I_X5) (by decide +kernel) ⟨Nat.le_of_ble_eq_true rfl, Nat.le_of_ble_eq_true rfl⟩, hts _ LX10_share_N_X5_oddsAt, hts _ LX10_share_E_X5_oddsAt⟩ (q_preV hK hP (ci := 5) (q0 := 19) rfl rfl rfl (q_pre hN hK hP hD [17, 18, 19, 20, 21, 22, 23, 24, 25, 26, 27, 28, 29, 30, 31, 32, 33, 34, 35, 36, 37, 38, 39, 40, 41, 42, 43, 44, 45, 46, 47, 48, 49, 50, 51, 52, 53, 54, 55, 56, 57, 58, 59, 60, 61, 62, 63] rfl (by decide))) rfl rfl hl.1 rfl (lv_room (Nat.le_of_ble_eq_true rfl)) dX10_share_47 ⟨Nat.le_of_ble_eq_true rfl, Nat.le_of_ble_eq_true rfl⟩) hP hD hS hA [17, 18, 19, 20, 21, 22, 23, 24, 25, 26, 27, 28, 29, 30, 31, 32, 33, 34, 35, 36, 37, 38, 39, 40, 41, 42, 43, 44, 45, 46, 47, 48, 49, 50, 51, 52, 53, 54, 55, 56, 57, 58, 59, 60, 61, 62, 63] [0, 1, 2, 3, 4, 5, 6, 7, 8, 9, 10, 11, 12, 13, 14, 15, 16] rfl rfl (by decide) (by decide) (fun r15 w1 H locs hw hP hD hS => ?_)
        obtain ⟨hq_, hw⟩ := hw; subst hw; subst hq_
        obtain ⟨s16, hs17, hB⟩ := letS_inv hB
        have hP : va_P (dC, dI) vwCl (wX cB cI cJ cZ cS a b b2 c0 rg sl s16) H := by subst hs17; exact hP
        have hD : va_D A (wX cB cI cJ cZ cS a b b2 c0 rg sl s16) := by subst hs17; exact hD
        refine lv_aload_n hx hb dX10_share_50 rfl (lv_at hl 0 rfl) ?_
        refine q_get (v := .ref (a 36)) C inX10_share_X10 hK hP 0 rfl rfl 7 (by decide) rfl LX10_share_63 rfl dX10_share_51 ?_
        refine lv_aload_n hx hb dX10_share_54 rfl (lv_at hl 0 rfl) ?_
        refine q_get (v := .ref (b 0)) C inX10_share_X10 hK hP 0 rfl rfl 3 (by decide) rfl LX10_share_35 rfl dX10_share_55 ?_
        refine lv_iload_n hx hb dX10_share_58 rfl (lv_at hl 1 rfl) ?_
        obtain ⟨q_, s18, hc, hB⟩ := bindI_inv hB
        refine q_goi (wr := ((wG cZ cS a b b2 c0 rg sl s16.g) ++ (wD cI b2 s16.t))) (va_runVN (As := [.ref (b 0), .int x1]) (rest := [.int r15]) C (ckX2_oddsOfAll hc _) ⟨va_cnB 2 hts gX10_share_X2_oddsOfAll_n203 rfl rfl rfl (hN _ nwM_X10_203 rfl) (hts _ LX10_share_I_X2) (by decide +kernel) ⟨Nat.le_of_ble_eq_true rfl, Nat.le_of_ble_eq_true rfl⟩, hts _ LX10_share_N_X2_oddsOfAll, hts _ LX10_share_E_X2_oddsOfAll⟩ (q_preV hK hP (ci := 2) (q0 := 53) rfl rfl rfl (q_pre hN hK hP hD [11, 12, 13, 14, 15, 16, 17, 18, 19, 20, 21, 22, 23, 24, 25, 26, 27, 28, 29, 30, 31, 32, 33, 34, 35, 36, 37, 38, 39, 40, 41, 42, 43, 44, 45, 46, 47, 48, 49, 50, 51, 52, 53, 54, 55, 56, 57, 58, 59, 60, 61, 62, 63] rfl (by decide))) rfl rfl hl.1 rfl (lv_room (Nat.le_of_ble_eq_true rfl)) dX10_share_59 ⟨Nat.le_of_ble_eq_true rfl, Nat.le_of_ble_eq_true rfl⟩) hP hD hS hA [11, 12, 13, 14, 15, 16, 17, 18, 19, 20, 21, 22, 23, 24, 25, 26, 27, 28, 29, 30, 31, 32, 33, 34, 35, 36, 37, 38, 39, 40, 41, 42, 43, 44, 45, 46, 47, 48, 49, 50, 51, 52, 53, 54, 55, 56, 57, 58, 59, 60, 61, 62, 63] [0, 1, 2, 3, 4, 5, 6, 7, 8, 9, 10] rfl rfl (by decide) (by decide) (fun r19 w1 H locs hw hP hD hS => ?_)
        obtain ⟨hq_, hw⟩ := hw; subst hw; subst hq_
        obtain ⟨s20, hs21, hB⟩ := letS_inv hB
        have hP : va_P (dC, dI) vwCl (wX cB cI cJ cZ cS a b b2 c0 rg sl s20) H := by subst hs21; exact hP
        have hD : va_D A (wX cB cI cJ cZ cS a b b2 c0 rg sl s20) := by subst hs21; exact hD
        refine lv_imul hx hb dX10_share_62 ?_
        exact q_iret C hr hlocks hK hP hD hS (Nat.le_of_ble_eq_true rfl) (Nat.le_of_ble_eq_true rfl) dX10_share_63 (by cases hB; exact ⟨rfl, rfl⟩)
      · have hB := if_p hB c13
        refine lv_iconst (v := 0) hx hb dX10_share_39 (by decide) ?_
        exact q_iret C hr hlocks hK hP hD hS (Nat.le_of_ble_eq_true rfl) (Nat.le_of_ble_eq_true rfl) dX10_share_40 (by cases hB; exact ⟨rfl, rfl⟩)
    · have hB := if_p hB c7
      refine lv_iconst (v := (-1)) hx hb dX10_share_18 (by decide) ?_
      exact q_iret C hr hlocks hK hP hD hS (Nat.le_of_ble_eq_true rfl) (Nat.le_of_ble_eq_true rfl) dX10_share_19 (by cases hB; exact ⟨rfl, rfl⟩)
theorem ckX10_share {l : Launch} {dC : Nat → ClassId} {dI : Nat → Nat → Nat} {cB cI cJ cZ cS : ClassId} {a b b2 c0 : Nat → Nat} {rg sl : Nat → Option Nat} {r : Int32} {s' : XS} {s : XS} {x1 : Int32} {x2 : Int32} (hB : kX10_share s x1 x2 = some (r, s')) : CI l yX10_share wsX10_share ({ frames := 3, cells := 0, slots := 0, locals := 71 }) (dC, dI) (tysA cB cI cJ cZ cS) (wX cB cI cJ cZ cS a b b2 c0 rg sl s) [.ref (c0 0), .int x1, .int x2] (fun x u => x = r ∧ u = (wX cB cI cJ cZ cS a b b2 c0 rg sl s')) :=
  CI_of (cc := cX10_share) (maxL := 3) (ret := (some .int)) (by decide) rfl (Nat.le_of_ble_eq_true rfl) (bkX10_share _ _ _ hB)
theorem LX10_drawn_19 : Cond.fieldLink RX10 19 "GuessFerry" "sound" "LGuessFerry$Sound;" ∈ wsX10_drawn := by decide +kernel
theorem LX10_drawn_35 : Cond.fieldLink RX10 35 "GuessFerry" "now" "LGuessFerry$Standing;" ∈ wsX10_drawn := by decide +kernel
theorem LX10_drawn_E_X5_hasWave : Cond.selects RX5 yX5_hasWave yX5_hasWave ∈ wsX10_drawn := by decide +kernel
theorem LX10_drawn_E_X5_thingThere : Cond.selects RX5 yX5_thingThere yX5_thingThere ∈ wsX10_drawn := by decide +kernel
theorem LX10_drawn_I_X5 : Cond.initialized RX5 ∈ wsX10_drawn := by decide +kernel
theorem LX10_drawn_N_X5_hasWave : Cond.instanceMethod yX5_hasWave ∈ wsX10_drawn := by decide +kernel
theorem LX10_drawn_N_X5_thingThere : Cond.instanceMethod yX5_thingThere ∈ wsX10_drawn := by decide +kernel
theorem inX10_drawn_X10 : ∀ w ∈ u_ws RX10 TX10 9, w ∈ wsX10_drawn := by decide +kernel
theorem inX10_drawn_X5 : ∀ w ∈ u_ws RX5 TX5 10, w ∈ wsX10_drawn := by decide +kernel
theorem inX10_drawn_X6 : ∀ w ∈ u_ws RX6 TX6 7, w ∈ wsX10_drawn := by decide +kernel
set_option maxHeartbeats 4000000 in
set_option maxRecDepth 100000 in
theorem bkX10_drawn_29 {l : Launch} {dC : Nat → ClassId} {dI : Nat → Nat → Nat} {cB cI cJ cZ cS : ClassId} {a b b2 c0 : Nat → Nat} {rg sl : Nat → Option Nat} {as : List Value} {r : Int32} {s' : XS} {k29 : XS → Int32 → Int32 → Int32 → Int32 → Option (Int32 × XS)} (hk29 : ∀ (s : XS) (x1 : Int32) (x2 : Int32) (x3 : Int32) (x4 : Int32), k29 s x1 x2 x3 x4 = some (r, s') → BlkI l yX10_drawn wsX10_drawn ({ frames := 3, cells := 0, slots := 0, locals := 71 }) cX10_drawn 5 (some .int) (dC, dI) (tysA cB cI cJ cZ cS) as 29 (wX cB cI cJ cZ cS a b b2 c0 rg sl s) [(0, .ref (c0 0)), (1, .int x1), (2, .int x2), (3, .int x3), (4, .int x4)] [] (fun x u => x = r ∧ u = (wX cB cI cJ cZ cS a b b2 c0 rg sl s'))) (s : XS) (x1 : Int32) (x2 : Int32) (x3 : Int32) (x4 : Int32) (hB : kX10_drawn_29 k29 s x1 x2 x3 x4 = some (r, s')) : BlkI l yX10_drawn wsX10_drawn ({ frames := 3, cells := 0, slots := 0, locals := 71 }) cX10_drawn 5 (some .int) (dC, dI) (tysA cB cI cJ cZ cS) as 29 (wX cB cI cJ cZ cS a b b2 c0 rg sl s) [(0, .ref (c0 0)), (1, .int x1), (2, .int x2), (3, .int x3), (4, .int x4)] [] (fun x u => x = r ∧ u = (wX cB cI cJ cZ cS a b b2 c0 rg sl s')) := by
  intro p e s0 m below meth c A E H locs ls hP hD hS hl
  obtain ⟨C, hr, hlocks, hA, hK, hN⟩ := id E
  obtain ⟨hx, hb, hml, hown, hts⟩ := id C
  unfold kX10_drawn_29 at hB
  refine lv_iload hx hb dX10_drawn_29 (lv_at hl 4 rfl) ?_
  refine lv_iload_n hx hb dX10_drawn_31 rfl (lv_at hl 2 rfl) ?_
  refine lv_icmp_ge (tgt := 73) hx hb dX10_drawn_32 (by decide) (fun c1 => ?_) (fun c1 => ?_)
  · have hB := if_p hB c1
    refine lv_iload_n hx hb dX10_drawn_73 rfl (lv_at hl 3 rfl) ?_
    obtain ⟨q_, hc, hB⟩ := bindP_inv hB
    refine q_goi0 (va_runS (As := [.int x3]) (rest := []) C (ckJ6_bitCount_0f7a4 hc _) (va_cwS 1 hts gX10_drawn_J6_bitCount_0f7a4 rfl rfl rfl (by decide +kernel) ⟨Nat.le_of_ble_eq_true rfl, Nat.le_of_ble_eq_true rfl⟩) (q_pre0 hN hK) rfl rfl hl.1 rfl (lv_room (Nat.le_of_ble_eq_true rfl)) dX10_drawn_74 ⟨Nat.le_of_ble_eq_true rfl, Nat.le_of_ble_eq_true rfl⟩) hP hD hS hA (fun r2 w1 H locs hw hP hS => ?_)
    subst hw
    exact q_iret C hr hlocks hK hP hD hS (Nat.le_of_ble_eq_true rfl) (Nat.le_of_ble_eq_true rfl) dX10_drawn_77 (by cases hB; exact ⟨rfl, rfl⟩)
  · have hB := if_n hB c1
    refine lv_iload_n hx hb dX10_drawn_35 rfl (lv_at hl 3 rfl) ?_
    refine lv_iconst (v := 1) hx hb dX10_drawn_36 (by decide) ?_
    refine lv_aload_n hx hb dX10_drawn_37 rfl (lv_at hl 0 rfl) ?_
    refine q_get (v := .ref (a 2)) C inX10_drawn_X10 hK hP 0 rfl rfl 1 (by decide) rfl LX10_drawn_19 rfl dX10_drawn_38 ?_
    refine lv_iload_n hx hb dX10_drawn_41 rfl (lv_at hl 1 rfl) ?_
    refine lv_aload_n hx hb dX10_drawn_42 rfl (lv_at hl 0 rfl) ?_
    refine q_get (v := .ref (b 0)) C inX10_drawn_X10 hK hP 0 rfl rfl 3 (by decide) rfl LX10_drawn_35 rfl dX10_drawn_43 ?_
    refine q_getN (v := .ref (b 3)) C hN inX10_drawn_X6 hK hP 11 rfl rfl 2 (by decide) rfl nwF_X10_122 rfl dX10_drawn_46 ?_
    refine lv_iload_n hx hb dX10_drawn_49 rfl (lv_at hl 1 rfl) ?_
    obtain ⟨g3, hB⟩ := guard_inv hB
    refine q_iald (x := ((s.n.f 2) (Int32.toNatClampNeg x1))) C hK hP 14 1 rfl rfl (vpb_in g3) dX10_drawn_50 rfl ?_
    refine lv_aload_n hx hb dX10_drawn_51 rfl (lv_at hl 0 rfl) ?_
    refine q_get (v := .ref (a 2)) C inX10_drawn_X10 hK hP 0 rfl rfl 1 (by decide) rfl LX10_drawn_19 rfl dX10_drawn_52 ?_
    refine q_getN (v := .int (s.k.v 4)) C hN inX10_drawn_X5 hK hP 19 rfl rfl 9 (by decide) rfl nwF_X10_253 rfl dX10_drawn_55 ?_
    refine lv_iload hx hb dX10_drawn_58 (lv_at hl 4 rfl) ?_
    refine lv_iadd hx hb dX10_drawn_60 ?_
    obtain ⟨q_, s4, hc, hB⟩ := bindI_inv hB
    refine q_goi (wr := ((wG cZ cS a b b2 c0 rg sl s.g) ++ (wD cI b2 s.t) ++ (wD cI b s.n))) (va_runVN (As := [.int x1, .int ((s.n.f 2) (Int32.toNatClampNeg x1)), .int ((s.k.v 4) + x4)]) (rest := [.int 1, .int x3]) C (ckX5_thingThere hc _) ⟨va_cnB 3 hts gX10_drawn_X5_thingThere_n259 rfl rfl rfl (hN _ nwM_X10_259 rfl) (hts _ LX10_drawn_I_X5) (by decide +kernel) ⟨Nat.le_of_ble_eq_true rfl, Nat.le_of_ble_eq_true rfl⟩, hts _ LX10_drawn_N_X5_thingThere, hts _ LX10_drawn_E_X5_thingThere⟩ (q_preV hK hP (ci := 5) (q0 := 19) rfl rfl rfl (q_pre hN hK hP hD [17, 18, 19, 20, 21, 22, 23, 24, 25, 26, 27, 28, 29, 30, 31, 32, 33, 34, 35, 36, 37, 38, 39, 40, 41, 42, 43, 44, 45, 46, 47, 48, 49, 50, 51, 52, 53, 54, 55, 56, 57, 58, 59, 60, 61, 62, 63] rfl (by decide))) rfl rfl hl.1 rfl (lv_room (Nat.le_of_ble_eq_true rfl)) dX10_drawn_61 ⟨Nat.le_of_ble_eq_true rfl, Nat.le_of_ble_eq_true rfl⟩) hP hD hS hA [17, 18, 19, 20, 21, 22, 23, 24, 25, 26, 27, 28, 29, 30, 31, 32, 33, 34, 35, 36, 37, 38, 39, 40, 41, 42, 43, 44, 45, 46, 47, 48, 49, 50, 51, 52, 53, 54, 55, 56, 57, 58, 59, 60, 61, 62, 63] [0, 1, 2, 3, 4, 5, 6, 7, 8, 9, 10, 11, 12, 13, 14, 15, 16] rfl rfl (by decide) (by decide) (fun r5 w1 H locs hw hP hD hS => ?_)
    obtain ⟨hq_, hw⟩ := hw; subst hw; subst hq_
    obtain ⟨s6, hs7, hB⟩ := letS_inv hB
    have hP : va_P (dC, dI) vwCl (wX cB cI cJ cZ cS a b b2 c0 rg sl s6) H := by subst hs7; exact hP
    have hD : va_D A (wX cB cI cJ cZ cS a b b2 c0 rg sl s6) := by subst hs7; exact hD
    refine lv_ishl hx hb dX10_drawn_64 ?_
    refine lv_ior hx hb dX10_drawn_65 ?_
    refine lv_istore_n (lv' := [(3, .int (x3 ||| (1 <<< (r5 &&& 31)))), (0, .ref (c0 0)), (1, .int x1), (2, .int x2), (4, .int x4)]) hx hb dX10_drawn_66 rfl hl (by decide) rfl (fun ls hl => ?_)
    refine lv_iinc (v := (x4 + 1)) (lv' := [(4, .int (x4 + 1)), (3, .int (x3 ||| (1 <<< (r5 &&& 31)))), (0, .ref (c0 0)), (1, .int x1), (2, .int x2)]) hx hb dX10_drawn_67 hl (k := 4) rfl (rfl) (by decide) rfl (fun ls hl => ?_)
    refine lv_goto (tgt := 29) hx hb dX10_drawn_70 (by decide) ?_
    exact hk29 _ _ _ _ _ hB p e s0 m below meth c A E H locs ls hP hD hS (lv_sub hl [2, 3, 4, 1, 0] rfl)
theorem bkX10_drawn_29L {l : Launch} {dC : Nat → ClassId} {dI : Nat → Nat → Nat} {cB cI cJ cZ cS : ClassId} {a b b2 c0 : Nat → Nat} {rg sl : Nat → Option Nat} {as : List Value} {r : Int32} {s' : XS} : ∀ (n : Nat) (s : XS) (x1 : Int32) (x2 : Int32) (x3 : Int32) (x4 : Int32), kX10_drawn_29L n s x1 x2 x3 x4 = some (r, s') → BlkI l yX10_drawn wsX10_drawn ({ frames := 3, cells := 0, slots := 0, locals := 71 }) cX10_drawn 5 (some .int) (dC, dI) (tysA cB cI cJ cZ cS) as 29 (wX cB cI cJ cZ cS a b b2 c0 rg sl s) [(0, .ref (c0 0)), (1, .int x1), (2, .int x2), (3, .int x3), (4, .int x4)] [] (fun x u => x = r ∧ u = (wX cB cI cJ cZ cS a b b2 c0 rg sl s')) := by
  intro n
  induction n with
  | zero => intro s x1 x2 x3 x4 hB; exact none_ne hB
  | succ n ih => intro s x1 x2 x3 x4 hB; exact bkX10_drawn_29 ih _ _ _ _ _ hB
set_option maxHeartbeats 4000000 in
set_option maxRecDepth 100000 in
theorem bkX10_drawn {l : Launch} {dC : Nat → ClassId} {dI : Nat → Nat → Nat} {cB cI cJ cZ cS : ClassId} {a b b2 c0 : Nat → Nat} {rg sl : Nat → Option Nat} {as : List Value} {r : Int32} {s' : XS} (s : XS) (x1 : Int32) (x2 : Int32) (hB : kX10_drawn s x1 x2 = some (r, s')) : BlkI l yX10_drawn wsX10_drawn ({ frames := 3, cells := 0, slots := 0, locals := 71 }) cX10_drawn 5 (some .int) (dC, dI) (tysA cB cI cJ cZ cS) as 0 (wX cB cI cJ cZ cS a b b2 c0 rg sl s) [(0, .ref (c0 0)), (1, .int x1), (2, .int x2)] [] (fun x u => x = r ∧ u = (wX cB cI cJ cZ cS a b b2 c0 rg sl s')) := by
  intro p e s0 m below meth c A E H locs ls hP hD hS hl
  obtain ⟨C, hr, hlocks, hA, hK, hN⟩ := id E
  obtain ⟨hx, hb, hml, hown, hts⟩ := id C
  unfold kX10_drawn at hB
  refine lv_aload_n hx hb dX10_drawn_0 rfl (lv_at hl 0 rfl) ?_
  refine q_get (v := .ref (a 2)) C inX10_drawn_X10 hK hP 0 rfl rfl 1 (by decide) rfl LX10_drawn_19 rfl dX10_drawn_1 ?_
  refine lv_iload_n hx hb dX10_drawn_4 rfl (lv_at hl 1 rfl) ?_
  obtain ⟨q_, s1, hc, hB⟩ := bindI_inv hB
  refine q_goi (wr := ((wG cZ cS a b b2 c0 rg sl s.g) ++ (wD cI b2 s.t) ++ (wD cI b s.n))) (va_runVN (As := [.int x1]) (rest := []) C (ckX5_hasWave hc _) ⟨va_cnB 1 hts gX10_drawn_X5_hasWave_n108 rfl rfl rfl (hN _ nwM_X10_108 rfl) (hts _ LX10_drawn_I_X5) (by decide +kernel) ⟨Nat.le_of_ble_eq_true rfl, Nat.le_of_ble_eq_true rfl⟩, hts _ LX10_drawn_N_X5_hasWave, hts _ LX10_drawn_E_X5_hasWave⟩ (q_preV hK hP (ci := 5) (q0 := 19) rfl rfl rfl (q_pre hN hK hP hD [17, 18, 19, 20, 21, 22, 23, 24, 25, 26, 27, 28, 29, 30, 31, 32, 33, 34, 35, 36, 37, 38, 39, 40, 41, 42, 43, 44, 45, 46, 47, 48, 49, 50, 51, 52, 53, 54, 55, 56, 57, 58, 59, 60, 61, 62, 63] rfl (by decide))) rfl rfl hl.1 rfl (lv_room (Nat.le_of_ble_eq_true rfl)) dX10_drawn_5 ⟨Nat.le_of_ble_eq_true rfl, Nat.le_of_ble_eq_true rfl⟩) hP hD hS hA [17, 18, 19, 20, 21, 22, 23, 24, 25, 26, 27, 28, 29, 30, 31, 32, 33, 34, 35, 36, 37, 38, 39, 40, 41, 42, 43, 44, 45, 46, 47, 48, 49, 50, 51, 52, 53, 54, 55, 56, 57, 58, 59, 60, 61, 62, 63] [0, 1, 2, 3, 4, 5, 6, 7, 8, 9, 10, 11, 12, 13, 14, 15, 16] rfl rfl (by decide) (by decide) (fun r2 w1 H locs hw hP hD hS => ?_)
  obtain ⟨hq_, hw⟩ := hw; subst hw; subst hq_
  obtain ⟨s3, hs4, hB⟩ := letS_inv hB
  have hP : va_P (dC, dI) vwCl (wX cB cI cJ cZ cS a b b2 c0 rg sl s3) H := by subst hs4; exact hP
  have hD : va_D A (wX cB cI cJ cZ cS a b b2 c0 rg sl s3) := by subst hs4; exact hD
  refine lv_if_eq (tgt := 22) hx hb dX10_drawn_8 (by decide) (fun c5 => ?_) (fun c5 => ?_)
  · have hB := if_p hB c5
    refine lv_iconst (v := (-1)) hx hb dX10_drawn_22 (by decide) ?_
    exact q_iret C hr hlocks hK hP hD hS (Nat.le_of_ble_eq_true rfl) (Nat.le_of_ble_eq_true rfl) dX10_drawn_23 (by cases hB; exact ⟨rfl, rfl⟩)
  · have hB := if_n hB c5
    refine lv_iload_n hx hb dX10_drawn_11 rfl (lv_at hl 2 rfl) ?_
    refine lv_iconst (v := 1) hx hb dX10_drawn_12 (by decide) ?_
    refine lv_icmp_lt (tgt := 22) hx hb dX10_drawn_13 (by decide) (fun c6 => ?_) (fun c6 => ?_)
    · have hB := if_p hB c6
      refine lv_iconst (v := (-1)) hx hb dX10_drawn_22 (by decide) ?_
      exact q_iret C hr hlocks hK hP hD hS (Nat.le_of_ble_eq_true rfl) (Nat.le_of_ble_eq_true rfl) dX10_drawn_23 (by cases hB; exact ⟨rfl, rfl⟩)
    · have hB := if_n hB c6
      refine lv_iload_n hx hb dX10_drawn_16 rfl (lv_at hl 2 rfl) ?_
      refine lv_bipush (v := 20) hx hb dX10_drawn_17 (by decide) ?_
      refine lv_icmp_le (tgt := 24) hx hb dX10_drawn_19 (by decide) (fun c7 => ?_) (fun c7 => ?_)
      · have hB := if_p hB c7
        refine lv_iconst (v := 0) hx hb dX10_drawn_24 (by decide) ?_
        refine lv_istore_n (lv' := [(3, .int 0), (0, .ref (c0 0)), (1, .int x1), (2, .int x2)]) hx hb dX10_drawn_25 rfl hl (by decide) rfl (fun ls hl => ?_)
        refine lv_iconst (v := 0) hx hb dX10_drawn_26 (by decide) ?_
        refine lv_istore (lv' := [(4, .int 0), (3, .int 0), (0, .ref (c0 0)), (1, .int x1), (2, .int x2)]) hx hb dX10_drawn_27 hl (by decide) rfl (fun ls hl => ?_)
        exact bkX10_drawn_29L fu _ _ _ _ _ hB p e s0 m below meth c A E H locs ls hP hD hS (lv_sub hl [2, 3, 4, 1, 0] rfl)
      · have hB := if_n hB c7
        refine lv_iconst (v := (-1)) hx hb dX10_drawn_22 (by decide) ?_
        exact q_iret C hr hlocks hK hP hD hS (Nat.le_of_ble_eq_true rfl) (Nat.le_of_ble_eq_true rfl) dX10_drawn_23 (by cases hB; exact ⟨rfl, rfl⟩)
theorem ckX10_drawn {l : Launch} {dC : Nat → ClassId} {dI : Nat → Nat → Nat} {cB cI cJ cZ cS : ClassId} {a b b2 c0 : Nat → Nat} {rg sl : Nat → Option Nat} {r : Int32} {s' : XS} {s : XS} {x1 : Int32} {x2 : Int32} (hB : kX10_drawn s x1 x2 = some (r, s')) : CI l yX10_drawn wsX10_drawn ({ frames := 3, cells := 0, slots := 0, locals := 71 }) (dC, dI) (tysA cB cI cJ cZ cS) (wX cB cI cJ cZ cS a b b2 c0 rg sl s) [.ref (c0 0), .int x1, .int x2] (fun x u => x = r ∧ u = (wX cB cI cJ cZ cS a b b2 c0 rg sl s')) :=
  CI_of (cc := cX10_drawn) (maxL := 5) (ret := (some .int)) (by decide) rfl (Nat.le_of_ble_eq_true rfl) (bkX10_drawn _ _ _ hB)
theorem LX10_fit_35 : Cond.fieldLink RX10 35 "GuessFerry" "now" "LGuessFerry$Standing;" ∈ wsX10_fit := by decide +kernel
theorem LX10_fit_70 : Cond.fieldLink RX10 70 "GuessFerry" "tellers" "LGuessFerry$Tellers;" ∈ wsX10_fit := by decide +kernel
theorem LX10_fit_E_X8_areSuch : Cond.selects RX8 yX8_areSuch yX8_areSuch ∈ wsX10_fit := by decide +kernel
theorem LX10_fit_E_X8_believe : Cond.selects RX8 yX8_believe yX8_believe ∈ wsX10_fit := by decide +kernel
theorem LX10_fit_E_X8_fitting : Cond.selects RX8 yX8_fitting yX8_fitting ∈ wsX10_fit := by decide +kernel
theorem LX10_fit_I_X8 : Cond.initialized RX8 ∈ wsX10_fit := by decide +kernel
theorem LX10_fit_N_X8_areSuch : Cond.instanceMethod yX8_areSuch ∈ wsX10_fit := by decide +kernel
theorem LX10_fit_N_X8_believe : Cond.instanceMethod yX8_believe ∈ wsX10_fit := by decide +kernel
theorem LX10_fit_N_X8_fitting : Cond.instanceMethod yX8_fitting ∈ wsX10_fit := by decide +kernel
theorem inX10_fit_X10 : ∀ w ∈ u_ws RX10 TX10 9, w ∈ wsX10_fit := by decide +kernel
set_option maxHeartbeats 4000000 in
set_option maxRecDepth 100000 in
theorem bkX10_fit_50 {l : Launch} {dC : Nat → ClassId} {dI : Nat → Nat → Nat} {cB cI cJ cZ cS : ClassId} {a b b2 c0 : Nat → Nat} {rg sl : Nat → Option Nat} {as : List Value} {r : Int32} {s' : XS} (s : XS) (t0 : Int32) (t1 : Int32) (hB : kX10_fit_50 s t0 t1 = some (r, s')) : BlkI l yX10_fit wsX10_fit ({ frames := 3, cells := 0, slots := 0, locals := 72 }) cX10_fit 4 (some .int) (dC, dI) (tysA cB cI cJ cZ cS) as 50 (wX cB cI cJ cZ cS a b b2 c0 rg sl s) [] [.int t0, .int t1, .ref (a 41)] (fun x u => x = r ∧ u = (wX cB cI cJ cZ cS a b b2 c0 rg sl s')) := by
  intro p e s0 m below meth c A E H locs ls hP hD hS hl
  obtain ⟨C, hr, hlocks, hA, hK, hN⟩ := id E
  obtain ⟨hx, hb, hml, hown, hts⟩ := id C
  unfold kX10_fit_50 at hB
  obtain ⟨q_, s1, hc, hB⟩ := bindI_inv hB
  refine q_goi (wr := ((wG cZ cS a b b2 c0 rg sl s.g) ++ (wD cI b2 s.t) ++ (wD cI b s.n))) (va_runVN (As := [.int t1, .int t0]) (rest := []) C (ckX8_fitting hc _) ⟨va_cnB 2 hts gX10_fit_X8_fitting_n272 rfl rfl rfl (hN _ nwM_X10_272 rfl) (hts _ LX10_fit_I_X8) (by decide +kernel) ⟨Nat.le_of_ble_eq_true rfl, Nat.le_of_ble_eq_true rfl⟩, hts _ LX10_fit_N_X8_fitting, hts _ LX10_fit_E_X8_fitting⟩ (q_preV hK hP (ci := 8) (q0 := 58) rfl rfl rfl (q_pre hN hK hP hD [17, 18, 19, 20, 21, 22, 23, 24, 25, 26, 27, 28, 29, 30, 31, 32, 33, 34, 35, 36, 37, 38, 39, 40, 41, 42, 43, 44, 45, 46, 47, 48, 49, 50, 51, 52, 53, 54, 55, 56, 57, 58, 59, 60, 61, 62, 63] rfl (by decide))) rfl rfl hl.1 rfl (lv_room (Nat.le_of_ble_eq_true rfl)) dX10_fit_50 ⟨Nat.le_of_ble_eq_true rfl, Nat.le_of_ble_eq_true rfl⟩) hP hD hS hA [17, 18, 19, 20, 21, 22, 23, 24, 25, 26, 27, 28, 29, 30, 31, 32, 33, 34, 35, 36, 37, 38, 39, 40, 41, 42, 43, 44, 45, 46, 47, 48, 49, 50, 51, 52, 53, 54, 55, 56, 57, 58, 59, 60, 61, 62, 63] [0, 1, 2, 3, 4, 5, 6, 7, 8, 9, 10, 11, 12, 13, 14, 15, 16] rfl rfl (by decide) (by decide) (fun r2 w1 H locs hw hP hD hS => ?_)
  obtain ⟨hq_, hw⟩ := hw; subst hw; subst hq_
  obtain ⟨s3, hs4, hB⟩ := letS_inv hB
  have hP : va_P (dC, dI) vwCl (wX cB cI cJ cZ cS a b b2 c0 rg sl s3) H := by subst hs4; exact hP
  have hD : va_D A (wX cB cI cJ cZ cS a b b2 c0 rg sl s3) := by subst hs4; exact hD
  exact q_iret C hr hlocks hK hP hD hS (Nat.le_of_ble_eq_true rfl) (Nat.le_of_ble_eq_true rfl) dX10_fit_53 (by cases hB; exact ⟨rfl, rfl⟩)
set_option maxHeartbeats 4000000 in
set_option maxRecDepth 100000 in
theorem bkX10_fit {l : Launch} {dC : Nat → ClassId} {dI : Nat → Nat → Nat} {cB cI cJ cZ cS : ClassId} {a b b2 c0 : Nat → Nat} {rg sl : Nat → Option Nat} {as : List Value} {r : Int32} {s' : XS} (s : XS) (x1 : Int32) (x2 : Int32) (x3 : Int32) (hB : kX10_fit s x1 x2 x3 = some (r, s')) : BlkI l yX10_fit wsX10_fit ({ frames := 3, cells := 0, slots := 0, locals := 72 }) cX10_fit 4 (some .int) (dC, dI) (tysA cB cI cJ cZ cS) as 0 (wX cB cI cJ cZ cS a b b2 c0 rg sl s) [(0, .ref (c0 0)), (1, .int x1), (2, .int x2), (3, .int x3)] [] (fun x u => x = r ∧ u = (wX cB cI cJ cZ cS a b b2 c0 rg sl s')) := by
  intro p e s0 m below meth c A E H locs ls hP hD hS hl
  obtain ⟨C, hr, hlocks, hA, hK, hN⟩ := id E
  obtain ⟨hx, hb, hml, hown, hts⟩ := id C
  unfold kX10_fit at hB
  refine lv_aload_n hx hb dX10_fit_0 rfl (lv_at hl 0 rfl) ?_
  refine q_get (v := .ref (a 41)) C inX10_fit_X10 hK hP 0 rfl rfl 8 (by decide) rfl LX10_fit_70 rfl dX10_fit_1 ?_
  refine lv_iload_n hx hb dX10_fit_4 rfl (lv_at hl 1 rfl) ?_
  refine lv_iload_n hx hb dX10_fit_5 rfl (lv_at hl 2 rfl) ?_
  obtain ⟨q_, s1, hc, hB⟩ := bindI_inv hB
  refine q_goi (wr := ((wG cZ cS a b b2 c0 rg sl s.g) ++ (wD cI b2 s.t) ++ (wD cI b s.n))) (va_runVN (As := [.int x1, .int x2]) (rest := []) C (ckX8_areSuch hc _) ⟨va_cnB 2 hts gX10_fit_X8_areSuch_n266 rfl rfl rfl (hN _ nwM_X10_266 rfl) (hts _ LX10_fit_I_X8) (by decide +kernel) ⟨Nat.le_of_ble_eq_true rfl, Nat.le_of_ble_eq_true rfl⟩, hts _ LX10_fit_N_X8_areSuch, hts _ LX10_fit_E_X8_areSuch⟩ (q_preV hK hP (ci := 8) (q0 := 58) rfl rfl rfl (q_pre hN hK hP hD [17, 18, 19, 20, 21, 22, 23, 24, 25, 26, 27, 28, 29, 30, 31, 32, 33, 34, 35, 36, 37, 38, 39, 40, 41, 42, 43, 44, 45, 46, 47, 48, 49, 50, 51, 52, 53, 54, 55, 56, 57, 58, 59, 60, 61, 62, 63] rfl (by decide))) rfl rfl hl.1 rfl (lv_room (Nat.le_of_ble_eq_true rfl)) dX10_fit_6 ⟨Nat.le_of_ble_eq_true rfl, Nat.le_of_ble_eq_true rfl⟩) hP hD hS hA [17, 18, 19, 20, 21, 22, 23, 24, 25, 26, 27, 28, 29, 30, 31, 32, 33, 34, 35, 36, 37, 38, 39, 40, 41, 42, 43, 44, 45, 46, 47, 48, 49, 50, 51, 52, 53, 54, 55, 56, 57, 58, 59, 60, 61, 62, 63] [0, 1, 2, 3, 4, 5, 6, 7, 8, 9, 10, 11, 12, 13, 14, 15, 16] rfl rfl (by decide) (by decide) (fun r2 w1 H locs hw hP hD hS => ?_)
  obtain ⟨hq_, hw⟩ := hw; subst hw; subst hq_
  obtain ⟨s3, hs4, hB⟩ := letS_inv hB
  have hP : va_P (dC, dI) vwCl (wX cB cI cJ cZ cS a b b2 c0 rg sl s3) H := by subst hs4; exact hP
  have hD : va_D A (wX cB cI cJ cZ cS a b b2 c0 rg sl s3) := by subst hs4; exact hD
  refine lv_if_eq (tgt := 21) hx hb dX10_fit_9 (by decide) (fun c5 => ?_) (fun c5 => ?_)
  · have hB := if_p hB c5
    refine lv_iconst (v := (-1)) hx hb dX10_fit_21 (by decide) ?_
    exact q_iret C hr hlocks hK hP hD hS (Nat.le_of_ble_eq_true rfl) (Nat.le_of_ble_eq_true rfl) dX10_fit_22 (by cases hB; exact ⟨rfl, rfl⟩)
  · have hB := if_n hB c5
    refine lv_iload_n hx hb dX10_fit_12 rfl (lv_at hl 3 rfl) ?_
    refine lv_if_lt (tgt := 21) hx hb dX10_fit_13 (by decide) (fun c6 => ?_) (fun c6 => ?_)
    · have hB := if_p hB c6
      refine lv_iconst (v := (-1)) hx hb dX10_fit_21 (by decide) ?_
      exact q_iret C hr hlocks hK hP hD hS (Nat.le_of_ble_eq_true rfl) (Nat.le_of_ble_eq_true rfl) dX10_fit_22 (by cases hB; exact ⟨rfl, rfl⟩)
    · have hB := if_n hB c6
      refine lv_iload_n hx hb dX10_fit_16 rfl (lv_at hl 3 rfl) ?_
      refine lv_iconst (v := 1) hx hb dX10_fit_17 (by decide) ?_
      refine lv_icmp_le (tgt := 23) hx hb dX10_fit_18 (by decide) (fun c7 => ?_) (fun c7 => ?_)
      · have hB := if_p hB c7
        refine lv_aload_n hx hb dX10_fit_23 rfl (lv_at hl 0 rfl) ?_
        refine q_get (v := .ref (a 41)) C inX10_fit_X10 hK hP 0 rfl rfl 8 (by decide) rfl LX10_fit_70 rfl dX10_fit_24 ?_
        refine lv_aload_n hx hb dX10_fit_27 rfl (lv_at hl 0 rfl) ?_
        refine q_get (v := .ref (b 0)) C inX10_fit_X10 hK hP 0 rfl rfl 3 (by decide) rfl LX10_fit_35 rfl dX10_fit_28 ?_
        refine lv_iload_n hx hb dX10_fit_31 rfl (lv_at hl 1 rfl) ?_
        obtain ⟨s8, hc, hB⟩ := bindP_inv hB
        refine q_gov (wr := ((wG cZ cS a b b2 c0 rg sl s3.g) ++ (wD cI b2 s3.t))) (va_runVN (As := [.ref (b 0), .int x1]) (rest := []) C (ckX8_believe hc _) ⟨va_cnB 2 hts gX10_fit_X8_believe_n269 rfl rfl rfl (hN _ nwM_X10_269 rfl) (hts _ LX10_fit_I_X8) (by decide +kernel) ⟨Nat.le_of_ble_eq_true rfl, Nat.le_of_ble_eq_true rfl⟩, hts _ LX10_fit_N_X8_believe, hts _ LX10_fit_E_X8_believe⟩ (q_preV hK hP (ci := 8) (q0 := 58) rfl rfl rfl (q_pre hN hK hP hD [11, 12, 13, 14, 15, 16, 17, 18, 19, 20, 21, 22, 23, 24, 25, 26, 27, 28, 29, 30, 31, 32, 33, 34, 35, 36, 37, 38, 39, 40, 41, 42, 43, 44, 45, 46, 47, 48, 49, 50, 51, 52, 53, 54, 55, 56, 57, 58, 59, 60, 61, 62, 63] rfl (by decide))) rfl rfl hl.1 rfl (lv_room (Nat.le_of_ble_eq_true rfl)) dX10_fit_32 ⟨Nat.le_of_ble_eq_true rfl, Nat.le_of_ble_eq_true rfl⟩) hP hD hS hA [11, 12, 13, 14, 15, 16, 17, 18, 19, 20, 21, 22, 23, 24, 25, 26, 27, 28, 29, 30, 31, 32, 33, 34, 35, 36, 37, 38, 39, 40, 41, 42, 43, 44, 45, 46, 47, 48, 49, 50, 51, 52, 53, 54, 55, 56, 57, 58, 59, 60, 61, 62, 63] [0, 1, 2, 3, 4, 5, 6, 7, 8, 9, 10] rfl rfl (by decide) (by decide) (fun w1 H locs hw hP hD hS => ?_)
        subst hw
        obtain ⟨s9, hs10, hB⟩ := letS_inv hB
        have hP : va_P (dC, dI) vwCl (wX cB cI cJ cZ cS a b b2 c0 rg sl s9) H := by subst hs10; exact hP
        have hD : va_D A (wX cB cI cJ cZ cS a b b2 c0 rg sl s9) := by subst hs10; exact hD
        refine lv_aload_n hx hb dX10_fit_35 rfl (lv_at hl 0 rfl) ?_
        refine q_get (v := .ref (a 41)) C inX10_fit_X10 hK hP 0 rfl rfl 8 (by decide) rfl LX10_fit_70 rfl dX10_fit_36 ?_
        refine lv_iload_n hx hb dX10_fit_39 rfl (lv_at hl 2 rfl) ?_
        refine lv_iload_n hx hb dX10_fit_40 rfl (lv_at hl 3 rfl) ?_
        refine lv_iconst (v := 1) hx hb dX10_fit_41 (by decide) ?_
        refine lv_icmp_ne (tgt := 49) hx hb dX10_fit_42 (by decide) (fun c11 => ?_) (fun c11 => ?_)
        · have hB := if_n hB c11
          refine lv_iconst (v := 0) hx hb dX10_fit_49 (by decide) ?_
          exact bkX10_fit_50 _ _ _ hB p e s0 m below meth c A E H locs ls hP hD hS (lv_sub hl [] rfl)
        · have hB := if_p hB c11
          refine lv_iconst (v := 1) hx hb dX10_fit_45 (by decide) ?_
          refine lv_goto (tgt := 50) hx hb dX10_fit_46 (by decide) ?_
          exact bkX10_fit_50 _ _ _ hB p e s0 m below meth c A E H locs ls hP hD hS (lv_sub hl [] rfl)
      · have hB := if_n hB c7
        refine lv_iconst (v := (-1)) hx hb dX10_fit_21 (by decide) ?_
        exact q_iret C hr hlocks hK hP hD hS (Nat.le_of_ble_eq_true rfl) (Nat.le_of_ble_eq_true rfl) dX10_fit_22 (by cases hB; exact ⟨rfl, rfl⟩)
theorem ckX10_fit {l : Launch} {dC : Nat → ClassId} {dI : Nat → Nat → Nat} {cB cI cJ cZ cS : ClassId} {a b b2 c0 : Nat → Nat} {rg sl : Nat → Option Nat} {r : Int32} {s' : XS} {s : XS} {x1 : Int32} {x2 : Int32} {x3 : Int32} (hB : kX10_fit s x1 x2 x3 = some (r, s')) : CI l yX10_fit wsX10_fit ({ frames := 3, cells := 0, slots := 0, locals := 72 }) (dC, dI) (tysA cB cI cJ cZ cS) (wX cB cI cJ cZ cS a b b2 c0 rg sl s) [.ref (c0 0), .int x1, .int x2, .int x3] (fun x u => x = r ∧ u = (wX cB cI cJ cZ cS a b b2 c0 rg sl s')) :=
  CI_of (cc := cX10_fit) (maxL := 4) (ret := (some .int)) (by decide) rfl (Nat.le_of_ble_eq_true rfl) (bkX10_fit _ _ _ _ hB)
theorem LX10_lie_35 : Cond.fieldLink RX10 35 "GuessFerry" "now" "LGuessFerry$Standing;" ∈ wsX10_lie := by decide +kernel
theorem LX10_lie_70 : Cond.fieldLink RX10 70 "GuessFerry" "tellers" "LGuessFerry$Tellers;" ∈ wsX10_lie := by decide +kernel
theorem LX10_lie_E_X8_areSuch : Cond.selects RX8 yX8_areSuch yX8_areSuch ∈ wsX10_lie := by decide +kernel
theorem LX10_lie_E_X8_believe : Cond.selects RX8 yX8_believe yX8_believe ∈ wsX10_lie := by decide +kernel
theorem LX10_lie_E_X8_liars : Cond.selects RX8 yX8_liars yX8_liars ∈ wsX10_lie := by decide +kernel
theorem LX10_lie_I_X8 : Cond.initialized RX8 ∈ wsX10_lie := by decide +kernel
theorem LX10_lie_N_X8_areSuch : Cond.instanceMethod yX8_areSuch ∈ wsX10_lie := by decide +kernel
theorem LX10_lie_N_X8_believe : Cond.instanceMethod yX8_believe ∈ wsX10_lie := by decide +kernel
theorem LX10_lie_N_X8_liars : Cond.instanceMethod yX8_liars ∈ wsX10_lie := by decide +kernel
theorem inX10_lie_X10 : ∀ w ∈ u_ws RX10 TX10 9, w ∈ wsX10_lie := by decide +kernel
set_option maxHeartbeats 4000000 in
set_option maxRecDepth 100000 in
theorem bkX10_lie {l : Launch} {dC : Nat → ClassId} {dI : Nat → Nat → Nat} {cB cI cJ cZ cS : ClassId} {a b b2 c0 : Nat → Nat} {rg sl : Nat → Option Nat} {as : List Value} {r : Int32} {s' : XS} (s : XS) (x1 : Int32) (x2 : Int32) (hB : kX10_lie s x1 x2 = some (r, s')) : BlkI l yX10_lie wsX10_lie ({ frames := 3, cells := 0, slots := 0, locals := 76 }) cX10_lie 3 (some .int) (dC, dI) (tysA cB cI cJ cZ cS) as 0 (wX cB cI cJ cZ cS a b b2 c0 rg sl s) [(0, .ref (c0 0)), (1, .int x1), (2, .int x2)] [] (fun x u => x = r ∧ u = (wX cB cI cJ cZ cS a b b2 c0 rg sl s')) := by
  intro p e s0 m below meth c A E H locs ls hP hD hS hl
  obtain ⟨C, hr, hlocks, hA, hK, hN⟩ := id E
  obtain ⟨hx, hb, hml, hown, hts⟩ := id C
  unfold kX10_lie at hB
  refine lv_aload_n hx hb dX10_lie_0 rfl (lv_at hl 0 rfl) ?_
  refine q_get (v := .ref (a 41)) C inX10_lie_X10 hK hP 0 rfl rfl 8 (by decide) rfl LX10_lie_70 rfl dX10_lie_1 ?_
  refine lv_iload_n hx hb dX10_lie_4 rfl (lv_at hl 1 rfl) ?_
  refine lv_iload_n hx hb dX10_lie_5 rfl (lv_at hl 2 rfl) ?_
  obtain ⟨q_, s1, hc, hB⟩ := bindI_inv hB
  refine q_goi (wr := ((wG cZ cS a b b2 c0 rg sl s.g) ++ (wD cI b2 s.t) ++ (wD cI b s.n))) (va_runVN (As := [.int x1, .int x2]) (rest := []) C (ckX8_areSuch hc _) ⟨va_cnB 2 hts gX10_lie_X8_areSuch_n266 rfl rfl rfl (hN _ nwM_X10_266 rfl) (hts _ LX10_lie_I_X8) (by decide +kernel) ⟨Nat.le_of_ble_eq_true rfl, Nat.le_of_ble_eq_true rfl⟩, hts _ LX10_lie_N_X8_areSuch, hts _ LX10_lie_E_X8_areSuch⟩ (q_preV hK hP (ci := 8) (q0 := 58) rfl rfl rfl (q_pre hN hK hP hD [17, 18, 19, 20, 21, 22, 23, 24, 25, 26, 27, 28, 29, 30, 31, 32, 33, 34, 35, 36, 37, 38, 39, 40, 41, 42, 43, 44, 45, 46, 47, 48, 49, 50, 51, 52, 53, 54, 55, 56, 57, 58, 59, 60, 61, 62, 63] rfl (by decide))) rfl rfl hl.1 rfl (lv_room (Nat.le_of_ble_eq_true rfl)) dX10_lie_6 ⟨Nat.le_of_ble_eq_true rfl, Nat.le_of_ble_eq_true rfl⟩) hP hD hS hA [17, 18, 19, 20, 21, 22, 23, 24, 25, 26, 27, 28, 29, 30, 31, 32, 33, 34, 35, 36, 37, 38, 39, 40, 41, 42, 43, 44, 45, 46, 47, 48, 49, 50, 51, 52, 53, 54, 55, 56, 57, 58, 59, 60, 61, 62, 63] [0, 1, 2, 3, 4, 5, 6, 7, 8, 9, 10, 11, 12, 13, 14, 15, 16] rfl rfl (by decide) (by decide) (fun r2 w1 H locs hw hP hD hS => ?_)
  obtain ⟨hq_, hw⟩ := hw; subst hw; subst hq_
  obtain ⟨s3, hs4, hB⟩ := letS_inv hB
  have hP : va_P (dC, dI) vwCl (wX cB cI cJ cZ cS a b b2 c0 rg sl s3) H := by subst hs4; exact hP
  have hD : va_D A (wX cB cI cJ cZ cS a b b2 c0 rg sl s3) := by subst hs4; exact hD
  refine lv_if_ne (tgt := 14) hx hb dX10_lie_9 (by decide) (fun c5 => ?_) (fun c5 => ?_)
  · have hB := if_n hB c5
    refine lv_aload_n hx hb dX10_lie_14 rfl (lv_at hl 0 rfl) ?_
    refine q_get (v := .ref (a 41)) C inX10_lie_X10 hK hP 0 rfl rfl 8 (by decide) rfl LX10_lie_70 rfl dX10_lie_15 ?_
    refine lv_aload_n hx hb dX10_lie_18 rfl (lv_at hl 0 rfl) ?_
    refine q_get (v := .ref (b 0)) C inX10_lie_X10 hK hP 0 rfl rfl 3 (by decide) rfl LX10_lie_35 rfl dX10_lie_19 ?_
    refine lv_iload_n hx hb dX10_lie_22 rfl (lv_at hl 1 rfl) ?_
    obtain ⟨s6, hc, hB⟩ := bindP_inv hB
    refine q_gov (wr := ((wG cZ cS a b b2 c0 rg sl s3.g) ++ (wD cI b2 s3.t))) (va_runVN (As := [.ref (b 0), .int x1]) (rest := []) C (ckX8_believe hc _) ⟨va_cnB 2 hts gX10_lie_X8_believe_n269 rfl rfl rfl (hN _ nwM_X10_269 rfl) (hts _ LX10_lie_I_X8) (by decide +kernel) ⟨Nat.le_of_ble_eq_true rfl, Nat.le_of_ble_eq_true rfl⟩, hts _ LX10_lie_N_X8_believe, hts _ LX10_lie_E_X8_believe⟩ (q_preV hK hP (ci := 8) (q0 := 58) rfl rfl rfl (q_pre hN hK hP hD [11, 12, 13, 14, 15, 16, 17, 18, 19, 20, 21, 22, 23, 24, 25, 26, 27, 28, 29, 30, 31, 32, 33, 34, 35, 36, 37, 38, 39, 40, 41, 42, 43, 44, 45, 46, 47, 48, 49, 50, 51, 52, 53, 54, 55, 56, 57, 58, 59, 60, 61, 62, 63] rfl (by decide))) rfl rfl hl.1 rfl (lv_room (Nat.le_of_ble_eq_true rfl)) dX10_lie_23 ⟨Nat.le_of_ble_eq_true rfl, Nat.le_of_ble_eq_true rfl⟩) hP hD hS hA [11, 12, 13, 14, 15, 16, 17, 18, 19, 20, 21, 22, 23, 24, 25, 26, 27, 28, 29, 30, 31, 32, 33, 34, 35, 36, 37, 38, 39, 40, 41, 42, 43, 44, 45, 46, 47, 48, 49, 50, 51, 52, 53, 54, 55, 56, 57, 58, 59, 60, 61, 62, 63] [0, 1, 2, 3, 4, 5, 6, 7, 8, 9, 10] rfl rfl (by decide) (by decide) (fun w1 H locs hw hP hD hS => ?_)
    subst hw
    obtain ⟨s7, hs8, hB⟩ := letS_inv hB
    have hP : va_P (dC, dI) vwCl (wX cB cI cJ cZ cS a b b2 c0 rg sl s7) H := by subst hs8; exact hP
    have hD : va_D A (wX cB cI cJ cZ cS a b b2 c0 rg sl s7) := by subst hs8; exact hD
    refine lv_aload_n hx hb dX10_lie_26 rfl (lv_at hl 0 rfl) ?_
    refine q_get (v := .ref (a 41)) C inX10_lie_X10 hK hP 0 rfl rfl 8 (by decide) rfl LX10_lie_70 rfl dX10_lie_27 ?_
    refine lv_iload_n hx hb dX10_lie_30 rfl (lv_at hl 1 rfl) ?_
    refine lv_iload_n hx hb dX10_lie_31 rfl (lv_at hl 2 rfl) ?_
    obtain ⟨q_, s9, hc, hB⟩ := bindI_inv hB
    refine q_goi (wr := ((wG cZ cS a b b2 c0 rg sl s7.g) ++ (wD cI b2 s7.t) ++ (wD cI b s7.n))) (va_runVN (As := [.int x1, .int x2]) (rest := []) C (ckX8_liars hc _) ⟨va_cnB 2 hts gX10_lie_X8_liars_n276 rfl rfl rfl (hN _ nwM_X10_276 rfl) (hts _ LX10_lie_I_X8) (by decide +kernel) ⟨Nat.le_of_ble_eq_true rfl, Nat.le_of_ble_eq_true rfl⟩, hts _ LX10_lie_N_X8_liars, hts _ LX10_lie_E_X8_liars⟩ (q_preV hK hP (ci := 8) (q0 := 58) rfl rfl rfl (q_pre hN hK hP hD [17, 18, 19, 20, 21, 22, 23, 24, 25, 26, 27, 28, 29, 30, 31, 32, 33, 34, 35, 36, 37, 38, 39, 40, 41, 42, 43, 44, 45, 46, 47, 48, 49, 50, 51, 52, 53, 54, 55, 56, 57, 58, 59, 60, 61, 62, 63] rfl (by decide))) rfl rfl hl.1 rfl (lv_room (Nat.le_of_ble_eq_true rfl)) dX10_lie_32 ⟨Nat.le_of_ble_eq_true rfl, Nat.le_of_ble_eq_true rfl⟩) hP hD hS hA [17, 18, 19, 20, 21, 22, 23, 24, 25, 26, 27, 28, 29, 30, 31, 32, 33, 34, 35, 36, 37, 38, 39, 40, 41, 42, 43, 44, 45, 46, 47, 48, 49, 50, 51, 52, 53, 54, 55, 56, 57, 58, 59, 60, 61, 62, 63] [0, 1, 2, 3, 4, 5, 6, 7, 8, 9, 10, 11, 12, 13, 14, 15, 16] rfl rfl (by decide) (by decide) (fun r10 w1 H locs hw hP hD hS => ?_)
    obtain ⟨hq_, hw⟩ := hw; subst hw; subst hq_
    obtain ⟨s11, hs12, hB⟩ := letS_inv hB
    have hP : va_P (dC, dI) vwCl (wX cB cI cJ cZ cS a b b2 c0 rg sl s11) H := by subst hs12; exact hP
    have hD : va_D A (wX cB cI cJ cZ cS a b b2 c0 rg sl s11) := by subst hs12; exact hD
    exact q_iret C hr hlocks hK hP hD hS (Nat.le_of_ble_eq_true rfl) (Nat.le_of_ble_eq_true rfl) dX10_lie_35 (by cases hB; exact ⟨rfl, rfl⟩)
  · have hB := if_p hB c5
    refine lv_iconst (v := (-1)) hx hb dX10_lie_12 (by decide) ?_
    exact q_iret C hr hlocks hK hP hD hS (Nat.le_of_ble_eq_true rfl) (Nat.le_of_ble_eq_true rfl) dX10_lie_13 (by cases hB; exact ⟨rfl, rfl⟩)
theorem ckX10_lie {l : Launch} {dC : Nat → ClassId} {dI : Nat → Nat → Nat} {cB cI cJ cZ cS : ClassId} {a b b2 c0 : Nat → Nat} {rg sl : Nat → Option Nat} {r : Int32} {s' : XS} {s : XS} {x1 : Int32} {x2 : Int32} (hB : kX10_lie s x1 x2 = some (r, s')) : CI l yX10_lie wsX10_lie ({ frames := 3, cells := 0, slots := 0, locals := 76 }) (dC, dI) (tysA cB cI cJ cZ cS) (wX cB cI cJ cZ cS a b b2 c0 rg sl s) [.ref (c0 0), .int x1, .int x2] (fun x u => x = r ∧ u = (wX cB cI cJ cZ cS a b b2 c0 rg sl s')) :=
  CI_of (cc := cX10_lie) (maxL := 3) (ret := (some .int)) (by decide) rfl (Nat.le_of_ble_eq_true rfl) (bkX10_lie _ _ _ hB)
theorem LX10_ask_35 : Cond.fieldLink RX10 35 "GuessFerry" "now" "LGuessFerry$Standing;" ∈ wsX10_ask := by decide +kernel
theorem LX10_ask_70 : Cond.fieldLink RX10 70 "GuessFerry" "tellers" "LGuessFerry$Tellers;" ∈ wsX10_ask := by decide +kernel
theorem LX10_ask_E_X8_areSuch : Cond.selects RX8 yX8_areSuch yX8_areSuch ∈ wsX10_ask := by decide +kernel
theorem LX10_ask_E_X8_believe : Cond.selects RX8 yX8_believe yX8_believe ∈ wsX10_ask := by decide +kernel
theorem LX10_ask_E_X8_waveToAsk : Cond.selects RX8 yX8_waveToAsk yX8_waveToAsk ∈ wsX10_ask := by decide +kernel
theorem LX10_ask_I_X8 : Cond.initialized RX8 ∈ wsX10_ask := by decide +kernel
theorem LX10_ask_N_X8_areSuch : Cond.instanceMethod yX8_areSuch ∈ wsX10_ask := by decide +kernel
theorem LX10_ask_N_X8_believe : Cond.instanceMethod yX8_believe ∈ wsX10_ask := by decide +kernel
theorem LX10_ask_N_X8_waveToAsk : Cond.instanceMethod yX8_waveToAsk ∈ wsX10_ask := by decide +kernel
theorem inX10_ask_X10 : ∀ w ∈ u_ws RX10 TX10 9, w ∈ wsX10_ask := by decide +kernel
set_option maxHeartbeats 4000000 in
set_option maxRecDepth 100000 in
theorem bkX10_ask {l : Launch} {dC : Nat → ClassId} {dI : Nat → Nat → Nat} {cB cI cJ cZ cS : ClassId} {a b b2 c0 : Nat → Nat} {rg sl : Nat → Option Nat} {as : List Value} {r : Int32} {s' : XS} (s : XS) (x1 : Int32) (x2 : Int32) (hB : kX10_ask s x1 x2 = some (r, s')) : BlkI l yX10_ask wsX10_ask ({ frames := 3, cells := 0, slots := 0, locals := 76 }) cX10_ask 3 (some .int) (dC, dI) (tysA cB cI cJ cZ cS) as 0 (wX cB cI cJ cZ cS a b b2 c0 rg sl s) [(0, .ref (c0 0)), (1, .int x1), (2, .int x2)] [] (fun x u => x = r ∧ u = (wX cB cI cJ cZ cS a b b2 c0 rg sl s')) := by
  intro p e s0 m below meth c A E H locs ls hP hD hS hl
  obtain ⟨C, hr, hlocks, hA, hK, hN⟩ := id E
  obtain ⟨hx, hb, hml, hown, hts⟩ := id C
  unfold kX10_ask at hB
  refine lv_aload_n hx hb dX10_ask_0 rfl (lv_at hl 0 rfl) ?_
  refine q_get (v := .ref (a 41)) C inX10_ask_X10 hK hP 0 rfl rfl 8 (by decide) rfl LX10_ask_70 rfl dX10_ask_1 ?_
  refine lv_iload_n hx hb dX10_ask_4 rfl (lv_at hl 1 rfl) ?_
  refine lv_iload_n hx hb dX10_ask_5 rfl (lv_at hl 2 rfl) ?_
  obtain ⟨q_, s1, hc, hB⟩ := bindI_inv hB
  refine q_goi (wr := ((wG cZ cS a b b2 c0 rg sl s.g) ++ (wD cI b2 s.t) ++ (wD cI b s.n))) (va_runVN (As := [.int x1, .int x2]) (rest := []) C (ckX8_areSuch hc _) ⟨va_cnB 2 hts gX10_ask_X8_areSuch_n266 rfl rfl rfl (hN _ nwM_X10_266 rfl) (hts _ LX10_ask_I_X8) (by decide +kernel) ⟨Nat.le_of_ble_eq_true rfl, Nat.le_of_ble_eq_true rfl⟩, hts _ LX10_ask_N_X8_areSuch, hts _ LX10_ask_E_X8_areSuch⟩ (q_preV hK hP (ci := 8) (q0 := 58) rfl rfl rfl (q_pre hN hK hP hD [17, 18, 19, 20, 21, 22, 23, 24, 25, 26, 27, 28, 29, 30, 31, 32, 33, 34, 35, 36, 37, 38, 39, 40, 41, 42, 43, 44, 45, 46, 47, 48, 49, 50, 51, 52, 53, 54, 55, 56, 57, 58, 59, 60, 61, 62, 63] rfl (by decide))) rfl rfl hl.1 rfl (lv_room (Nat.le_of_ble_eq_true rfl)) dX10_ask_6 ⟨Nat.le_of_ble_eq_true rfl, Nat.le_of_ble_eq_true rfl⟩) hP hD hS hA [17, 18, 19, 20, 21, 22, 23, 24, 25, 26, 27, 28, 29, 30, 31, 32, 33, 34, 35, 36, 37, 38, 39, 40, 41, 42, 43, 44, 45, 46, 47, 48, 49, 50, 51, 52, 53, 54, 55, 56, 57, 58, 59, 60, 61, 62, 63] [0, 1, 2, 3, 4, 5, 6, 7, 8, 9, 10, 11, 12, 13, 14, 15, 16] rfl rfl (by decide) (by decide) (fun r2 w1 H locs hw hP hD hS => ?_)
  obtain ⟨hq_, hw⟩ := hw; subst hw; subst hq_
  obtain ⟨s3, hs4, hB⟩ := letS_inv hB
  have hP : va_P (dC, dI) vwCl (wX cB cI cJ cZ cS a b b2 c0 rg sl s3) H := by subst hs4; exact hP
  have hD : va_D A (wX cB cI cJ cZ cS a b b2 c0 rg sl s3) := by subst hs4; exact hD
  refine lv_if_ne (tgt := 14) hx hb dX10_ask_9 (by decide) (fun c5 => ?_) (fun c5 => ?_)
  · have hB := if_n hB c5
    refine lv_aload_n hx hb dX10_ask_14 rfl (lv_at hl 0 rfl) ?_
    refine q_get (v := .ref (a 41)) C inX10_ask_X10 hK hP 0 rfl rfl 8 (by decide) rfl LX10_ask_70 rfl dX10_ask_15 ?_
    refine lv_aload_n hx hb dX10_ask_18 rfl (lv_at hl 0 rfl) ?_
    refine q_get (v := .ref (b 0)) C inX10_ask_X10 hK hP 0 rfl rfl 3 (by decide) rfl LX10_ask_35 rfl dX10_ask_19 ?_
    refine lv_iload_n hx hb dX10_ask_22 rfl (lv_at hl 1 rfl) ?_
    obtain ⟨s6, hc, hB⟩ := bindP_inv hB
    refine q_gov (wr := ((wG cZ cS a b b2 c0 rg sl s3.g) ++ (wD cI b2 s3.t))) (va_runVN (As := [.ref (b 0), .int x1]) (rest := []) C (ckX8_believe hc _) ⟨va_cnB 2 hts gX10_ask_X8_believe_n269 rfl rfl rfl (hN _ nwM_X10_269 rfl) (hts _ LX10_ask_I_X8) (by decide +kernel) ⟨Nat.le_of_ble_eq_true rfl, Nat.le_of_ble_eq_true rfl⟩, hts _ LX10_ask_N_X8_believe, hts _ LX10_ask_E_X8_believe⟩ (q_preV hK hP (ci := 8) (q0 := 58) rfl rfl rfl (q_pre hN hK hP hD [11, 12, 13, 14, 15, 16, 17, 18, 19, 20, 21, 22, 23, 24, 25, 26, 27, 28, 29, 30, 31, 32, 33, 34, 35, 36, 37, 38, 39, 40, 41, 42, 43, 44, 45, 46, 47, 48, 49, 50, 51, 52, 53, 54, 55, 56, 57, 58, 59, 60, 61, 62, 63] rfl (by decide))) rfl rfl hl.1 rfl (lv_room (Nat.le_of_ble_eq_true rfl)) dX10_ask_23 ⟨Nat.le_of_ble_eq_true rfl, Nat.le_of_ble_eq_true rfl⟩) hP hD hS hA [11, 12, 13, 14, 15, 16, 17, 18, 19, 20, 21, 22, 23, 24, 25, 26, 27, 28, 29, 30, 31, 32, 33, 34, 35, 36, 37, 38, 39, 40, 41, 42, 43, 44, 45, 46, 47, 48, 49, 50, 51, 52, 53, 54, 55, 56, 57, 58, 59, 60, 61, 62, 63] [0, 1, 2, 3, 4, 5, 6, 7, 8, 9, 10] rfl rfl (by decide) (by decide) (fun w1 H locs hw hP hD hS => ?_)
    subst hw
    obtain ⟨s7, hs8, hB⟩ := letS_inv hB
    have hP : va_P (dC, dI) vwCl (wX cB cI cJ cZ cS a b b2 c0 rg sl s7) H := by subst hs8; exact hP
    have hD : va_D A (wX cB cI cJ cZ cS a b b2 c0 rg sl s7) := by subst hs8; exact hD
    refine lv_aload_n hx hb dX10_ask_26 rfl (lv_at hl 0 rfl) ?_
    refine q_get (v := .ref (a 41)) C inX10_ask_X10 hK hP 0 rfl rfl 8 (by decide) rfl LX10_ask_70 rfl dX10_ask_27 ?_
    refine lv_iload_n hx hb dX10_ask_30 rfl (lv_at hl 2 rfl) ?_
    obtain ⟨q_, s9, hc, hB⟩ := bindI_inv hB
    refine q_goi (wr := ((wG cZ cS a b b2 c0 rg sl s7.g) ++ (wD cI b2 s7.t) ++ (wD cI b s7.n))) (va_runVN (As := [.int x2]) (rest := []) C (ckX8_waveToAsk hc _) ⟨va_cnB 1 hts gX10_ask_X8_waveToAsk_n279 rfl rfl rfl (hN _ nwM_X10_279 rfl) (hts _ LX10_ask_I_X8) (by decide +kernel) ⟨Nat.le_of_ble_eq_true rfl, Nat.le_of_ble_eq_true rfl⟩, hts _ LX10_ask_N_X8_waveToAsk, hts _ LX10_ask_E_X8_waveToAsk⟩ (q_preV hK hP (ci := 8) (q0 := 58) rfl rfl rfl (q_pre hN hK hP hD [17, 18, 19, 20, 21, 22, 23, 24, 25, 26, 27, 28, 29, 30, 31, 32, 33, 34, 35, 36, 37, 38, 39, 40, 41, 42, 43, 44, 45, 46, 47, 48, 49, 50, 51, 52, 53, 54, 55, 56, 57, 58, 59, 60, 61, 62, 63] rfl (by decide))) rfl rfl hl.1 rfl (lv_room (Nat.le_of_ble_eq_true rfl)) dX10_ask_31 ⟨Nat.le_of_ble_eq_true rfl, Nat.le_of_ble_eq_true rfl⟩) hP hD hS hA [17, 18, 19, 20, 21, 22, 23, 24, 25, 26, 27, 28, 29, 30, 31, 32, 33, 34, 35, 36, 37, 38, 39, 40, 41, 42, 43, 44, 45, 46, 47, 48, 49, 50, 51, 52, 53, 54, 55, 56, 57, 58, 59, 60, 61, 62, 63] [0, 1, 2, 3, 4, 5, 6, 7, 8, 9, 10, 11, 12, 13, 14, 15, 16] rfl rfl (by decide) (by decide) (fun r10 w1 H locs hw hP hD hS => ?_)
    obtain ⟨hq_, hw⟩ := hw; subst hw; subst hq_
    obtain ⟨s11, hs12, hB⟩ := letS_inv hB
    have hP : va_P (dC, dI) vwCl (wX cB cI cJ cZ cS a b b2 c0 rg sl s11) H := by subst hs12; exact hP
    have hD : va_D A (wX cB cI cJ cZ cS a b b2 c0 rg sl s11) := by subst hs12; exact hD
    exact q_iret C hr hlocks hK hP hD hS (Nat.le_of_ble_eq_true rfl) (Nat.le_of_ble_eq_true rfl) dX10_ask_34 (by cases hB; exact ⟨rfl, rfl⟩)
  · have hB := if_p hB c5
    refine lv_iconst (v := (-1)) hx hb dX10_ask_12 (by decide) ?_
    exact q_iret C hr hlocks hK hP hD hS (Nat.le_of_ble_eq_true rfl) (Nat.le_of_ble_eq_true rfl) dX10_ask_13 (by cases hB; exact ⟨rfl, rfl⟩)
theorem ckX10_ask {l : Launch} {dC : Nat → ClassId} {dI : Nat → Nat → Nat} {cB cI cJ cZ cS : ClassId} {a b b2 c0 : Nat → Nat} {rg sl : Nat → Option Nat} {r : Int32} {s' : XS} {s : XS} {x1 : Int32} {x2 : Int32} (hB : kX10_ask s x1 x2 = some (r, s')) : CI l yX10_ask wsX10_ask ({ frames := 3, cells := 0, slots := 0, locals := 76 }) (dC, dI) (tysA cB cI cJ cZ cS) (wX cB cI cJ cZ cS a b b2 c0 rg sl s) [.ref (c0 0), .int x1, .int x2] (fun x u => x = r ∧ u = (wX cB cI cJ cZ cS a b b2 c0 rg sl s')) :=
  CI_of (cc := cX10_ask) (maxL := 3) (ret := (some .int)) (by decide) rfl (Nat.le_of_ble_eq_true rfl) (bkX10_ask _ _ _ hB)
theorem LX0_thereNow_9 : Cond.fieldLink RX0 9 "GuessFerry$Crossing" "sound" "LGuessFerry$Sound;" ∈ wsX0_thereNow := by decide +kernel
theorem LX0_thereNow_E_X5_thingThere : Cond.selects RX5 yX5_thingThere yX5_thingThere ∈ wsX0_thereNow := by decide +kernel
theorem LX0_thereNow_I_X5 : Cond.initialized RX5 ∈ wsX0_thereNow := by decide +kernel
theorem LX0_thereNow_N_X5_thingThere : Cond.instanceMethod yX5_thingThere ∈ wsX0_thereNow := by decide +kernel
theorem inX0_thereNow_X0 : ∀ w ∈ u_ws RX0 TX0 2, w ∈ wsX0_thereNow := by decide +kernel
theorem inX0_thereNow_X5 : ∀ w ∈ u_ws RX5 TX5 10, w ∈ wsX0_thereNow := by decide +kernel
theorem inX0_thereNow_X6 : ∀ w ∈ u_ws RX6 TX6 7, w ∈ wsX0_thereNow := by decide +kernel
set_option maxHeartbeats 4000000 in
set_option maxRecDepth 100000 in
theorem bkX0_thereNow {l : Launch} {dC : Nat → ClassId} {dI : Nat → Nat → Nat} {cB cI cJ cZ cS : ClassId} {a b : Nat → Nat} {as : List Value} {r : Int32} {s' : JS} (s : JS) (x2 : Int32) (hB : kX0_thereNow s x2 = some (r, s')) : BlkI l yX0_thereNow wsX0_thereNow ({ frames := 3, cells := 0, slots := 0, locals := 71 }) cX0_thereNow 3 (some .int) (dC, dI) (tysA cB cI cJ cZ cS) as 0 (wJ cB cI cJ cZ cS a b s) [(0, .ref (a 35)), (1, .ref (b 0)), (2, .int x2)] [] (fun x u => x = r ∧ u = (wJ cB cI cJ cZ cS a b s')) := by
  intro p e s0 m below meth c A E H locs ls hP hD hS hl
  obtain ⟨C, hr, hlocks, hA, hK, hN⟩ := id E
  obtain ⟨hx, hb, hml, hown, hts⟩ := id C
  unfold kX0_thereNow at hB
  refine lv_aload_n hx hb dX0_thereNow_0 rfl (lv_at hl 0 rfl) ?_
  refine q_get (v := .ref (a 2)) C inX0_thereNow_X0 hK hP 41 rfl rfl 0 (by decide) rfl LX0_thereNow_9 rfl dX0_thereNow_1 ?_
  refine lv_iload_n hx hb dX0_thereNow_4 rfl (lv_at hl 2 rfl) ?_
  refine lv_aload_n hx hb dX0_thereNow_5 rfl (lv_at hl 1 rfl) ?_
  refine q_getN (v := .ref (b 3)) C hN inX0_thereNow_X6 hK hP 0 rfl rfl 2 (by decide) rfl nwF_X0_39 rfl dX0_thereNow_6 ?_
  refine lv_iload_n hx hb dX0_thereNow_9 rfl (lv_at hl 2 rfl) ?_
  obtain ⟨g1, hB⟩ := guard_inv hB
  refine q_iald (x := ((s.d.f 2) (Int32.toNatClampNeg x2))) C hK hP 3 1 rfl rfl (vpb_in g1) dX0_thereNow_10 rfl ?_
  refine lv_aload_n hx hb dX0_thereNow_11 rfl (lv_at hl 0 rfl) ?_
  refine q_get (v := .ref (a 2)) C inX0_thereNow_X0 hK hP 41 rfl rfl 0 (by decide) rfl LX0_thereNow_9 rfl dX0_thereNow_12 ?_
  refine q_getN (v := .int (s.k.v 4)) C hN inX0_thereNow_X5 hK hP 8 rfl rfl 9 (by decide) rfl nwF_X0_42 rfl dX0_thereNow_15 ?_
  obtain ⟨q_, s2, hc, hB⟩ := bindI_inv hB
  refine q_goi (wr := ((wD cI b s.d))) (va_runVN (As := [.int x2, .int ((s.d.f 2) (Int32.toNatClampNeg x2)), .int (s.k.v 4)]) (rest := []) C (ckX5_thingThere hc _) ⟨va_cnB 3 hts gX0_thereNow_X5_thingThere_n46 rfl rfl rfl (hN _ nwM_X0_46 rfl) (hts _ LX0_thereNow_I_X5) (by decide +kernel) ⟨Nat.le_of_ble_eq_true rfl, Nat.le_of_ble_eq_true rfl⟩, hts _ LX0_thereNow_N_X5_thingThere, hts _ LX0_thereNow_E_X5_thingThere⟩ (q_preV hK hP (ci := 5) (q0 := 8) rfl rfl rfl (q_pre hN hK hP hD [6, 7, 8, 9, 10, 11, 12, 13, 14, 15, 16, 17, 18, 19, 20, 21, 22, 23, 24, 25, 26, 27, 28, 29, 30, 31, 32, 33, 34, 35, 36, 37, 38, 39, 40, 41, 42, 43, 44, 45, 46, 47, 48, 49, 50, 51, 52] rfl (by decide))) rfl rfl hl.1 rfl (lv_room (Nat.le_of_ble_eq_true rfl)) dX0_thereNow_18 ⟨Nat.le_of_ble_eq_true rfl, Nat.le_of_ble_eq_true rfl⟩) hP hD hS hA [6, 7, 8, 9, 10, 11, 12, 13, 14, 15, 16, 17, 18, 19, 20, 21, 22, 23, 24, 25, 26, 27, 28, 29, 30, 31, 32, 33, 34, 35, 36, 37, 38, 39, 40, 41, 42, 43, 44, 45, 46, 47, 48, 49, 50, 51, 52] [0, 1, 2, 3, 4, 5] rfl rfl (by decide) (by decide) (fun r3 w1 H locs hw hP hD hS => ?_)
  obtain ⟨hq_, hw⟩ := hw; subst hw; subst hq_
  obtain ⟨s4, hs5, hB⟩ := letS_inv hB
  have hP : va_P (dC, dI) vwCl (wJ cB cI cJ cZ cS a b s4) H := by subst hs5; exact hP
  have hD : va_D A (wJ cB cI cJ cZ cS a b s4) := by subst hs5; exact hD
  exact q_iret C hr hlocks hK hP hD hS (Nat.le_of_ble_eq_true rfl) (Nat.le_of_ble_eq_true rfl) dX0_thereNow_21 (by cases hB; exact ⟨rfl, rfl⟩)
theorem ckX0_thereNow {l : Launch} {dC : Nat → ClassId} {dI : Nat → Nat → Nat} {cB cI cJ cZ cS : ClassId} {a b : Nat → Nat} {r : Int32} {s' : JS} {s : JS} {x2 : Int32} (hB : kX0_thereNow s x2 = some (r, s')) : CI l yX0_thereNow wsX0_thereNow ({ frames := 3, cells := 0, slots := 0, locals := 71 }) (dC, dI) (tysA cB cI cJ cZ cS) (wJ cB cI cJ cZ cS a b s) [.ref (a 35), .ref (b 0), .int x2] (fun x u => x = r ∧ u = (wJ cB cI cJ cZ cS a b s')) :=
  CI_of (cc := cX0_thereNow) (maxL := 3) (ret := (some .int)) (by decide) rfl (Nat.le_of_ble_eq_true rfl) (bkX0_thereNow _ _ hB)
theorem LX0_guessThere_9 : Cond.fieldLink RX0 9 "GuessFerry$Crossing" "sound" "LGuessFerry$Sound;" ∈ wsX0_guessThere := by decide +kernel
theorem LX0_guessThere_E_X5_thingThere : Cond.selects RX5 yX5_thingThere yX5_thingThere ∈ wsX0_guessThere := by decide +kernel
theorem LX0_guessThere_I_X5 : Cond.initialized RX5 ∈ wsX0_guessThere := by decide +kernel
theorem LX0_guessThere_N_X5_thingThere : Cond.instanceMethod yX5_thingThere ∈ wsX0_guessThere := by decide +kernel
theorem inX0_guessThere_X0 : ∀ w ∈ u_ws RX0 TX0 2, w ∈ wsX0_guessThere := by decide +kernel
theorem inX0_guessThere_X5 : ∀ w ∈ u_ws RX5 TX5 10, w ∈ wsX0_guessThere := by decide +kernel
theorem inX0_guessThere_X6 : ∀ w ∈ u_ws RX6 TX6 7, w ∈ wsX0_guessThere := by decide +kernel
set_option maxHeartbeats 4000000 in
set_option maxRecDepth 100000 in
theorem bkX0_guessThere_13 {l : Launch} {dC : Nat → ClassId} {dI : Nat → Nat → Nat} {cB cI cJ cZ cS : ClassId} {a b : Nat → Nat} {as : List Value} {r : Int32} {s' : JS} {k13 : JS → Int32 → Int32 → Int32 → Option (Int32 × JS)} (hk13 : ∀ (s : JS) (x2 : Int32) (x3 : Int32) (x4 : Int32), k13 s x2 x3 x4 = some (r, s') → BlkI l yX0_guessThere wsX0_guessThere ({ frames := 3, cells := 0, slots := 0, locals := 71 }) cX0_guessThere 5 (some .int) (dC, dI) (tysA cB cI cJ cZ cS) as 13 (wJ cB cI cJ cZ cS a b s) [(0, .ref (a 35)), (1, .ref (b 0)), (2, .int x2), (3, .int x3), (4, .int x4)] [] (fun x u => x = r ∧ u = (wJ cB cI cJ cZ cS a b s'))) (s : JS) (x2 : Int32) (x3 : Int32) (x4 : Int32) (hB : kX0_guessThere_13 k13 s x2 x3 x4 = some (r, s')) : BlkI l yX0_guessThere wsX0_guessThere ({ frames := 3, cells := 0, slots := 0, locals := 71 }) cX0_guessThere 5 (some .int) (dC, dI) (tysA cB cI cJ cZ cS) as 13 (wJ cB cI cJ cZ cS a b s) [(0, .ref (a 35)), (1, .ref (b 0)), (2, .int x2), (3, .int x3), (4, .int x4)] [] (fun x u => x = r ∧ u = (wJ cB cI cJ cZ cS a b s')) := by
  intro p e s0 m below meth c A E H locs ls hP hD hS hl
  obtain ⟨C, hr, hlocks, hA, hK, hN⟩ := id E
  obtain ⟨hx, hb, hml, hown, hts⟩ := id C
  unfold kX0_guessThere_13 at hB
  refine lv_iload hx hb dX0_guessThere_13 (lv_at hl 4 rfl) ?_
  refine lv_if_lt (tgt := 47) hx hb dX0_guessThere_15 (by decide) (fun c1 => ?_) (fun c1 => ?_)
  · have hB := if_p hB c1
    refine lv_iload_n hx hb dX0_guessThere_47 rfl (lv_at hl 3 rfl) ?_
    exact q_iret C hr hlocks hK hP hD hS (Nat.le_of_ble_eq_true rfl) (Nat.le_of_ble_eq_true rfl) dX0_guessThere_48 (by cases hB; exact ⟨rfl, rfl⟩)
  · have hB := if_n hB c1
    refine lv_iload_n hx hb dX0_guessThere_18 rfl (lv_at hl 3 rfl) ?_
    refine lv_bipush (v := 6) hx hb dX0_guessThere_19 (by decide) ?_
    refine lv_imul hx hb dX0_guessThere_21 ?_
    refine lv_aload_n hx hb dX0_guessThere_22 rfl (lv_at hl 0 rfl) ?_
    refine q_get (v := .ref (a 2)) C inX0_guessThere_X0 hK hP 41 rfl rfl 0 (by decide) rfl LX0_guessThere_9 rfl dX0_guessThere_23 ?_
    refine lv_iload hx hb dX0_guessThere_26 (lv_at hl 4 rfl) ?_
    refine lv_aload_n hx hb dX0_guessThere_28 rfl (lv_at hl 1 rfl) ?_
    refine q_getN (v := .ref (b 3)) C hN inX0_guessThere_X6 hK hP 0 rfl rfl 2 (by decide) rfl nwF_X0_39 rfl dX0_guessThere_29 ?_
    refine lv_iload hx hb dX0_guessThere_32 (lv_at hl 4 rfl) ?_
    obtain ⟨g2, hB⟩ := guard_inv hB
    refine q_iald (x := ((s.d.f 2) (Int32.toNatClampNeg x4))) C hK hP 3 1 rfl rfl (vpb_in g2) dX0_guessThere_34 rfl ?_
    refine lv_iload_n hx hb dX0_guessThere_35 rfl (lv_at hl 2 rfl) ?_
    obtain ⟨q_, s3, hc, hB⟩ := bindI_inv hB
    refine q_goi (wr := ((wD cI b s.d))) (va_runVN (As := [.int x4, .int ((s.d.f 2) (Int32.toNatClampNeg x4)), .int x2]) (rest := [.int (x3 * 6)]) C (ckX5_thingThere hc _) ⟨va_cnB 3 hts gX0_guessThere_X5_thingThere_n46 rfl rfl rfl (hN _ nwM_X0_46 rfl) (hts _ LX0_guessThere_I_X5) (by decide +kernel) ⟨Nat.le_of_ble_eq_true rfl, Nat.le_of_ble_eq_true rfl⟩, hts _ LX0_guessThere_N_X5_thingThere, hts _ LX0_guessThere_E_X5_thingThere⟩ (q_preV hK hP (ci := 5) (q0 := 8) rfl rfl rfl (q_pre hN hK hP hD [6, 7, 8, 9, 10, 11, 12, 13, 14, 15, 16, 17, 18, 19, 20, 21, 22, 23, 24, 25, 26, 27, 28, 29, 30, 31, 32, 33, 34, 35, 36, 37, 38, 39, 40, 41, 42, 43, 44, 45, 46, 47, 48, 49, 50, 51, 52] rfl (by decide))) rfl rfl hl.1 rfl (lv_room (Nat.le_of_ble_eq_true rfl)) dX0_guessThere_36 ⟨Nat.le_of_ble_eq_true rfl, Nat.le_of_ble_eq_true rfl⟩) hP hD hS hA [6, 7, 8, 9, 10, 11, 12, 13, 14, 15, 16, 17, 18, 19, 20, 21, 22, 23, 24, 25, 26, 27, 28, 29, 30, 31, 32, 33, 34, 35, 36, 37, 38, 39, 40, 41, 42, 43, 44, 45, 46, 47, 48, 49, 50, 51, 52] [0, 1, 2, 3, 4, 5] rfl rfl (by decide) (by decide) (fun r4 w1 H locs hw hP hD hS => ?_)
    obtain ⟨hq_, hw⟩ := hw; subst hw; subst hq_
    obtain ⟨s5, hs6, hB⟩ := letS_inv hB
    have hP : va_P (dC, dI) vwCl (wJ cB cI cJ cZ cS a b s5) H := by subst hs6; exact hP
    have hD : va_D A (wJ cB cI cJ cZ cS a b s5) := by subst hs6; exact hD
    refine lv_iadd hx hb dX0_guessThere_39 ?_
    refine lv_istore_n (lv' := [(3, .int ((x3 * 6) + r4)), (0, .ref (a 35)), (1, .ref (b 0)), (2, .int x2), (4, .int x4)]) hx hb dX0_guessThere_40 rfl hl (by decide) rfl (fun ls hl => ?_)
    refine lv_iinc (v := (x4 + (-1))) (lv' := [(4, .int (x4 + (-1))), (3, .int ((x3 * 6) + r4)), (0, .ref (a 35)), (1, .ref (b 0)), (2, .int x2)]) hx hb dX0_guessThere_41 hl (k := 4) rfl (rfl) (by decide) rfl (fun ls hl => ?_)
    refine lv_goto (tgt := 13) hx hb dX0_guessThere_44 (by decide) ?_
    exact hk13 _ _ _ _ hB p e s0 m below meth c A E H locs ls hP hD hS (lv_sub hl [2, 3, 4, 1, 0] rfl)
theorem bkX0_guessThere_13L {l : Launch} {dC : Nat → ClassId} {dI : Nat → Nat → Nat} {cB cI cJ cZ cS : ClassId} {a b : Nat → Nat} {as : List Value} {r : Int32} {s' : JS} : ∀ (n : Nat) (s : JS) (x2 : Int32) (x3 : Int32) (x4 : Int32), kX0_guessThere_13L n s x2 x3 x4 = some (r, s') → BlkI l yX0_guessThere wsX0_guessThere ({ frames := 3, cells := 0, slots := 0, locals := 71 }) cX0_guessThere 5 (some .int) (dC, dI) (tysA cB cI cJ cZ cS) as 13 (wJ cB cI cJ cZ cS a b s) [(0, .ref (a 35)), (1, .ref (b 0)), (2, .int x2), (3, .int x3), (4, .int x4)] [] (fun x u => x = r ∧ u = (wJ cB cI cJ cZ cS a b s')) := by
  intro n
  induction n with
  | zero => intro s x2 x3 x4 hB; exact none_ne hB
  | succ n ih => intro s x2 x3 x4 hB; exact bkX0_guessThere_13 ih _ _ _ _ hB
set_option maxHeartbeats 4000000 in
set_option maxRecDepth 100000 in
theorem bkX0_guessThere {l : Launch} {dC : Nat → ClassId} {dI : Nat → Nat → Nat} {cB cI cJ cZ cS : ClassId} {a b : Nat → Nat} {as : List Value} {r : Int32} {s' : JS} (s : JS) (x2 : Int32) (hB : kX0_guessThere s x2 = some (r, s')) : BlkI l yX0_guessThere wsX0_guessThere ({ frames := 3, cells := 0, slots := 0, locals := 71 }) cX0_guessThere 5 (some .int) (dC, dI) (tysA cB cI cJ cZ cS) as 0 (wJ cB cI cJ cZ cS a b s) [(0, .ref (a 35)), (1, .ref (b 0)), (2, .int x2)] [] (fun x u => x = r ∧ u = (wJ cB cI cJ cZ cS a b s')) := by
  intro p e s0 m below meth c A E H locs ls hP hD hS hl
  obtain ⟨C, hr, hlocks, hA, hK, hN⟩ := id E
  obtain ⟨hx, hb, hml, hown, hts⟩ := id C
  unfold kX0_guessThere at hB
  refine lv_iconst (v := 0) hx hb dX0_guessThere_0 (by decide) ?_
  refine lv_istore_n (lv' := [(3, .int 0), (0, .ref (a 35)), (1, .ref (b 0)), (2, .int x2)]) hx hb dX0_guessThere_1 rfl hl (by decide) rfl (fun ls hl => ?_)
  refine lv_aload_n hx hb dX0_guessThere_2 rfl (lv_at hl 1 rfl) ?_
  refine q_get (v := .ref (a 2)) C inX0_guessThere_X0 hK hP 41 rfl rfl 0 (by decide) rfl LX0_guessThere_9 rfl dX0_guessThere_3 ?_
  refine q_getN (v := .int (s.k.v 1)) C hN inX0_guessThere_X5 hK hP 8 rfl rfl 6 (by decide) rfl nwF_X0_50 rfl dX0_guessThere_6 ?_
  refine lv_iconst (v := 1) hx hb dX0_guessThere_9 (by decide) ?_
  refine lv_isub hx hb dX0_guessThere_10 ?_
  refine lv_istore (lv' := [(4, .int ((s.k.v 1) - 1)), (3, .int 0), (0, .ref (a 35)), (1, .ref (b 0)), (2, .int x2)]) hx hb dX0_guessThere_11 hl (by decide) rfl (fun ls hl => ?_)
  exact bkX0_guessThere_13L fu _ _ _ _ hB p e s0 m below meth c A E H locs ls hP hD hS (lv_sub hl [2, 3, 4, 1, 0] rfl)
theorem ckX0_guessThere {l : Launch} {dC : Nat → ClassId} {dI : Nat → Nat → Nat} {cB cI cJ cZ cS : ClassId} {a b : Nat → Nat} {r : Int32} {s' : JS} {s : JS} {x2 : Int32} (hB : kX0_guessThere s x2 = some (r, s')) : CI l yX0_guessThere wsX0_guessThere ({ frames := 3, cells := 0, slots := 0, locals := 71 }) (dC, dI) (tysA cB cI cJ cZ cS) (wJ cB cI cJ cZ cS a b s) [.ref (a 35), .ref (b 0), .int x2] (fun x u => x = r ∧ u = (wJ cB cI cJ cZ cS a b s')) :=
  CI_of (cc := cX0_guessThere) (maxL := 5) (ret := (some .int)) (by decide) rfl (Nat.le_of_ble_eq_true rfl) (bkX0_guessThere _ _ hB)
