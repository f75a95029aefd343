theorem ggX2_leftBehind_X2_mayCount : GoodIn wsX2_leftBehind wsX2_mayCount := gi_sub (fun w h => List.mem_cons_of_mem _ (List.mem_append_left _ (List.mem_append_left _ (List.mem_append_left _ (List.mem_append_left _ (List.mem_append_right _ (List.mem_append_left _ h))))))) gd_wsX2_mayCount
set_option maxRecDepth 20000 in
theorem gX2_leftBehind_X2_mayCount : GoodIn wsX2_leftBehind (wsV RX2 50 RX2 yX2_mayCount wsX2_mayCount) := goodIn_app (goodIn_r _ [7, 8, 9, 10] (by decide +kernel) (by decide +kernel)) ggX2_leftBehind_X2_mayCount
theorem ggX2_leftBehind_X0_mayBe : GoodIn wsX2_leftBehind wsX0_mayBe := gi_sub (fun w h => List.mem_cons_of_mem _ (List.mem_append_left _ (List.mem_append_left _ (List.mem_append_left _ (List.mem_append_left _ (List.mem_append_right _ (List.mem_append_right _ (List.mem_append_left _ h)))))))) gd_wsX0_mayBe
set_option maxRecDepth 20000 in
theorem gX2_leftBehind_X0_mayBe_n32 : GoodIn wsX2_leftBehind (wsX0_mayBe) := ggX2_leftBehind_X0_mayBe
theorem ggX2_leftBehind_X10_thingIn : GoodIn wsX2_leftBehind wsX10_thingIn := gi_sub (fun w h => List.mem_cons_of_mem _ (List.mem_append_left _ (List.mem_append_left _ (List.mem_append_left _ (List.mem_append_left _ (List.mem_append_right _ (List.mem_append_right _ (List.mem_append_right _ (List.mem_append_left _ h))))))))) gd_wsX10_thingIn
set_option maxRecDepth 20000 in
theorem gX2_leftBehind_X10_thingIn_n65 : GoodIn wsX2_leftBehind (wsX10_thingIn) := ggX2_leftBehind_X10_thingIn
theorem ggX2_leftBehind_X10_has : GoodIn wsX2_leftBehind wsX10_has := gi_sub (fun w h => List.mem_cons_of_mem _ (List.mem_append_left _ (List.mem_append_left _ (List.mem_append_left _ (List.mem_append_left _ (List.mem_append_right _ (List.mem_append_right _ (List.mem_append_right _ (List.mem_append_right _ h))))))))) gd_wsX10_has
set_option maxRecDepth 20000 in
theorem gX2_leftBehind_X10_has_n57 : GoodIn wsX2_leftBehind (wsX10_has) := ggX2_leftBehind_X10_has
theorem dX2_leftBehind_0 : decode cX2_leftBehind 0 = .ok (.iconst 1, 1) := dc1_4 (by decide +kernel)
theorem dX2_leftBehind_1 : decode cX2_leftBehind 1 = .ok (.istore_n 3, 1) := dc1_62 (by decide +kernel)
theorem dX2_leftBehind_2 : decode cX2_leftBehind 2 = .ok (.iconst 1, 1) := dc1_4 (by decide +kernel)
theorem dX2_leftBehind_3 : decode cX2_leftBehind 3 = .ok (.istore 4, 2) := dcu_54 (by decide +kernel)
theorem dX2_leftBehind_5 : decode cX2_leftBehind 5 = .ok (.aload_n 0, 1) := dc1_42 (by decide +kernel)
theorem dX2_leftBehind_6 : decode cX2_leftBehind 6 = .ok (.getfield 24, 3) := dcw_180 (by decide +kernel)
theorem dX2_leftBehind_9 : decode cX2_leftBehind 9 = .ok (.getfield 44, 3) := dcw_180 (by decide +kernel)
theorem dX2_leftBehind_12 : decode cX2_leftBehind 12 = .ok (.iconst 1, 1) := dc1_4 (by decide +kernel)
theorem dX2_leftBehind_13 : decode cX2_leftBehind 13 = .ok (.isub, 1) := dc1_100 (by decide +kernel)
theorem dX2_leftBehind_14 : decode cX2_leftBehind 14 = .ok (.istore 5, 2) := dcu_54 (by decide +kernel)
theorem dX2_leftBehind_16 : decode cX2_leftBehind 16 = .ok (.iload 5, 2) := dcu_21 (by decide +kernel)
theorem dX2_leftBehind_18 : decode cX2_leftBehind 18 = .ok (.ifCond .lt 68, 3) := dcs_155 (n := 68) (by decide +kernel)
theorem dX2_leftBehind_21 : decode cX2_leftBehind 21 = .ok (.aload_n 0, 1) := dc1_42 (by decide +kernel)
theorem dX2_leftBehind_22 : decode cX2_leftBehind 22 = .ok (.aload_n 1, 1) := dc1_43 (by decide +kernel)
theorem dX2_leftBehind_23 : decode cX2_leftBehind 23 = .ok (.iload 5, 2) := dcu_21 (by decide +kernel)
theorem dX2_leftBehind_25 : decode cX2_leftBehind 25 = .ok (.invokevirtual 50, 3) := dcw_182 (by decide +kernel)
theorem dX2_leftBehind_28 : decode cX2_leftBehind 28 = .ok (.istore 6, 2) := dcu_54 (by decide +kernel)
theorem dX2_leftBehind_30 : decode cX2_leftBehind 30 = .ok (.aload_n 0, 1) := dc1_42 (by decide +kernel)
theorem dX2_leftBehind_31 : decode cX2_leftBehind 31 = .ok (.getfield 28, 3) := dcw_180 (by decide +kernel)
theorem dX2_leftBehind_34 : decode cX2_leftBehind 34 = .ok (.aload_n 1, 1) := dc1_43 (by decide +kernel)
theorem dX2_leftBehind_35 : decode cX2_leftBehind 35 = .ok (.iload 5, 2) := dcu_21 (by decide +kernel)
theorem dX2_leftBehind_37 : decode cX2_leftBehind 37 = .ok (.invokevirtual 32, 3) := dcw_182 (by decide +kernel)
theorem dX2_leftBehind_40 : decode cX2_leftBehind 40 = .ok (.iload_n 2, 1) := dc1_28 (by decide +kernel)
theorem dX2_leftBehind_41 : decode cX2_leftBehind 41 = .ok (.iload 5, 2) := dcu_21 (by decide +kernel)
theorem dX2_leftBehind_43 : decode cX2_leftBehind 43 = .ok (.invokestatic 65, 3) := dcw_184 (by decide +kernel)
theorem dX2_leftBehind_46 : decode cX2_leftBehind 46 = .ok (.invokestatic 57, 3) := dcw_184 (by decide +kernel)
theorem dX2_leftBehind_49 : decode cX2_leftBehind 49 = .ok (.ifCond .eq 18, 3) := dcs_153 (n := 18) (by decide +kernel)
theorem dX2_leftBehind_52 : decode cX2_leftBehind 52 = .ok (.iload_n 3, 1) := dc1_29 (by decide +kernel)
theorem dX2_leftBehind_53 : decode cX2_leftBehind 53 = .ok (.iload 6, 2) := dcu_21 (by decide +kernel)
theorem dX2_leftBehind_55 : decode cX2_leftBehind 55 = .ok (.iconst 1, 1) := dc1_4 (by decide +kernel)
theorem dX2_leftBehind_56 : decode cX2_leftBehind 56 = .ok (.isub, 1) := dc1_100 (by decide +kernel)
theorem dX2_leftBehind_57 : decode cX2_leftBehind 57 = .ok (.iload 4, 2) := dcu_21 (by decide +kernel)
theorem dX2_leftBehind_59 : decode cX2_leftBehind 59 = .ok (.imul, 1) := dc1_104 (by decide +kernel)
theorem dX2_leftBehind_60 : decode cX2_leftBehind 60 = .ok (.invokestatic 79, 3) := dcw_184 (by decide +kernel)
theorem dX2_leftBehind_63 : decode cX2_leftBehind 63 = .ok (.istore_n 3, 1) := dc1_62 (by decide +kernel)
theorem dX2_leftBehind_64 : decode cX2_leftBehind 64 = .ok (.goto 9, 3) := dcs_167 (n := 9) (by decide +kernel)
theorem dX2_leftBehind_67 : decode cX2_leftBehind 67 = .ok (.iload 6, 2) := dcu_21 (by decide +kernel)
theorem dX2_leftBehind_69 : decode cX2_leftBehind 69 = .ok (.iload 4, 2) := dcu_21 (by decide +kernel)
theorem dX2_leftBehind_71 : decode cX2_leftBehind 71 = .ok (.imul, 1) := dc1_104 (by decide +kernel)
theorem dX2_leftBehind_72 : decode cX2_leftBehind 72 = .ok (.istore_n 3, 1) := dc1_62 (by decide +kernel)
theorem dX2_leftBehind_73 : decode cX2_leftBehind 73 = .ok (.iload 4, 2) := dcu_21 (by decide +kernel)
theorem dX2_leftBehind_75 : decode cX2_leftBehind 75 = .ok (.iload 6, 2) := dcu_21 (by decide +kernel)
theorem dX2_leftBehind_77 : decode cX2_leftBehind 77 = .ok (.imul, 1) := dc1_104 (by decide +kernel)
theorem dX2_leftBehind_78 : decode cX2_leftBehind 78 = .ok (.istore 4, 2) := dcu_54 (by decide +kernel)
theorem dX2_leftBehind_80 : decode cX2_leftBehind 80 = .ok (.iinc 5 (-1), 3) := dc_iinc (m := 255) (by decide +kernel)
theorem dX2_leftBehind_83 : decode cX2_leftBehind 83 = .ok (.goto (-67), 3) := dcs_167 (n := 65469) (by decide +kernel)
theorem dX2_leftBehind_86 : decode cX2_leftBehind 86 = .ok (.iload_n 3, 1) := dc1_29 (by decide +kernel)
theorem dX2_leftBehind_87 : decode cX2_leftBehind 87 = .ok (.ireturn, 1) := dc1_172 (by decide +kernel)
theorem ggX2_wisestGuess_X0_mayBe : GoodIn wsX2_wisestGuess wsX0_mayBe := gi_sub (fun w h => List.mem_cons_of_mem _ (List.mem_append_left _ (List.mem_append_left _ (List.mem_append_left _ (List.mem_append_left _ (List.mem_append_right _ (List.mem_append_left _ h))))))) gd_wsX0_mayBe
set_option maxRecDepth 20000 in
theorem gX2_wisestGuess_X0_mayBe_n32 : GoodIn wsX2_wisestGuess (wsX0_mayBe) := ggX2_wisestGuess_X0_mayBe
theorem ggX2_wisestGuess_J6_numberOfTrailingZeros_0f7a4 : GoodIn wsX2_wisestGuess wsJ6_numberOfTrailingZeros_0f7a4 := gi_sub (fun w h => List.mem_cons_of_mem _ (List.mem_append_left _ (List.mem_append_left _ (List.mem_append_left _ (List.mem_append_left _ (List.mem_append_right _ (List.mem_append_right _ (List.mem_append_left _ h)))))))) gd_wsJ6_numberOfTrailingZeros_0f7a4
set_option maxRecDepth 20000 in
theorem gX2_wisestGuess_J6_numberOfTrailingZeros_0f7a4 : GoodIn wsX2_wisestGuess (va_wsS RX2 84 yJ6_numberOfTrailingZeros_0f7a4 wsJ6_numberOfTrailingZeros_0f7a4) := goodIn_app (goodIn_of _ (by decide +kernel)) ggX2_wisestGuess_J6_numberOfTrailingZeros_0f7a4
theorem ggX2_wisestGuess_X2_mayCount : GoodIn wsX2_wisestGuess wsX2_mayCount := gi_sub (fun w h => List.mem_cons_of_mem _ (List.mem_append_left _ (List.mem_append_left _ (List.mem_append_left _ (List.mem_append_left _ (List.mem_append_right _ (List.mem_append_right _ (List.mem_append_right _ h)))))))) gd_wsX2_mayCount
set_option maxRecDepth 20000 in
theorem gX2_wisestGuess_X2_mayCount : GoodIn wsX2_wisestGuess (wsV RX2 50 RX2 yX2_mayCount wsX2_mayCount) := goodIn_app (goodIn_r _ [9, 10, 11, 12] (by decide +kernel) (by decide +kernel)) ggX2_wisestGuess_X2_mayCount
theorem dX2_wisestGuess_0 : decode cX2_wisestGuess 0 = .ok (.iconst 0, 1) := dc1_3 (by decide +kernel)
theorem dX2_wisestGuess_1 : decode cX2_wisestGuess 1 = .ok (.istore_n 2, 1) := dc1_61 (by decide +kernel)
theorem dX2_wisestGuess_2 : decode cX2_wisestGuess 2 = .ok (.iconst 1, 1) := dc1_4 (by decide +kernel)
theorem dX2_wisestGuess_3 : decode cX2_wisestGuess 3 = .ok (.istore_n 3, 1) := dc1_62 (by decide +kernel)
theorem dX2_wisestGuess_4 : decode cX2_wisestGuess 4 = .ok (.iconst 0, 1) := dc1_3 (by decide +kernel)
theorem dX2_wisestGuess_5 : decode cX2_wisestGuess 5 = .ok (.istore 4, 2) := dcu_54 (by decide +kernel)
theorem dX2_wisestGuess_7 : decode cX2_wisestGuess 7 = .ok (.iload 4, 2) := dcu_21 (by decide +kernel)
theorem dX2_wisestGuess_9 : decode cX2_wisestGuess 9 = .ok (.aload_n 0, 1) := dc1_42 (by decide +kernel)
theorem dX2_wisestGuess_10 : decode cX2_wisestGuess 10 = .ok (.getfield 24, 3) := dcw_180 (by decide +kernel)
theorem dX2_wisestGuess_13 : decode cX2_wisestGuess 13 = .ok (.getfield 44, 3) := dcw_180 (by decide +kernel)
theorem dX2_wisestGuess_16 : decode cX2_wisestGuess 16 = .ok (.if_icmp .ge 45, 3) := dcs_162 (n := 45) (by decide +kernel)
theorem dX2_wisestGuess_19 : decode cX2_wisestGuess 19 = .ok (.iload_n 2, 1) := dc1_28 (by decide +kernel)
theorem dX2_wisestGuess_20 : decode cX2_wisestGuess 20 = .ok (.iload_n 3, 1) := dc1_29 (by decide +kernel)
theorem dX2_wisestGuess_21 : decode cX2_wisestGuess 21 = .ok (.aload_n 0, 1) := dc1_42 (by decide +kernel)
theorem dX2_wisestGuess_22 : decode cX2_wisestGuess 22 = .ok (.getfield 28, 3) := dcw_180 (by decide +kernel)
theorem dX2_wisestGuess_25 : decode cX2_wisestGuess 25 = .ok (.aload_n 1, 1) := dc1_43 (by decide +kernel)
theorem dX2_wisestGuess_26 : decode cX2_wisestGuess 26 = .ok (.iload 4, 2) := dcu_21 (by decide +kernel)
theorem dX2_wisestGuess_28 : decode cX2_wisestGuess 28 = .ok (.invokevirtual 32, 3) := dcw_182 (by decide +kernel)
theorem dX2_wisestGuess_31 : decode cX2_wisestGuess 31 = .ok (.invokestatic 84, 3) := dcw_184 (by decide +kernel)
theorem dX2_wisestGuess_34 : decode cX2_wisestGuess 34 = .ok (.imul, 1) := dc1_104 (by decide +kernel)
theorem dX2_wisestGuess_35 : decode cX2_wisestGuess 35 = .ok (.iadd, 1) := dc1_96 (by decide +kernel)
theorem dX2_wisestGuess_36 : decode cX2_wisestGuess 36 = .ok (.istore_n 2, 1) := dc1_61 (by decide +kernel)
theorem dX2_wisestGuess_37 : decode cX2_wisestGuess 37 = .ok (.aload_n 0, 1) := dc1_42 (by decide +kernel)
theorem dX2_wisestGuess_38 : decode cX2_wisestGuess 38 = .ok (.aload_n 1, 1) := dc1_43 (by decide +kernel)
theorem dX2_wisestGuess_39 : decode cX2_wisestGuess 39 = .ok (.iload 4, 2) := dcu_21 (by decide +kernel)
theorem dX2_wisestGuess_41 : decode cX2_wisestGuess 41 = .ok (.invokevirtual 50, 3) := dcw_182 (by decide +kernel)
theorem dX2_wisestGuess_44 : decode cX2_wisestGuess 44 = .ok (.iconst 1, 1) := dc1_4 (by decide +kernel)
theorem dX2_wisestGuess_45 : decode cX2_wisestGuess 45 = .ok (.if_icmp .le 5, 3) := dcs_164 (n := 5) (by decide +kernel)
theorem dX2_wisestGuess_48 : decode cX2_wisestGuess 48 = .ok (.iload_n 2, 1) := dc1_28 (by decide +kernel)
theorem dX2_wisestGuess_49 : decode cX2_wisestGuess 49 = .ok (.ireturn, 1) := dc1_172 (by decide +kernel)
theorem dX2_wisestGuess_50 : decode cX2_wisestGuess 50 = .ok (.iload_n 3, 1) := dc1_29 (by decide +kernel)
theorem dX2_wisestGuess_51 : decode cX2_wisestGuess 51 = .ok (.bipush 6, 2) := dcb_16 (n := 6) (by decide +kernel)
theorem dX2_wisestGuess_53 : decode cX2_wisestGuess 53 = .ok (.imul, 1) := dc1_104 (by decide +kernel)
theorem dX2_wisestGuess_54 : decode cX2_wisestGuess 54 = .ok (.istore_n 3, 1) := dc1_62 (by decide +kernel)
theorem dX2_wisestGuess_55 : decode cX2_wisestGuess 55 = .ok (.iinc 4 1, 3) := dc_iinc (m := 1) (by decide +kernel)
theorem dX2_wisestGuess_58 : decode cX2_wisestGuess 58 = .ok (.goto (-51), 3) := dcs_167 (n := 65485) (by decide +kernel)
theorem dX2_wisestGuess_61 : decode cX2_wisestGuess 61 = .ok (.iconst 0, 1) := dc1_3 (by decide +kernel)
theorem dX2_wisestGuess_62 : decode cX2_wisestGuess 62 = .ok (.ireturn, 1) := dc1_172 (by decide +kernel)
theorem ggX2_oddsApart_X2_oddsIfMay : GoodIn wsX2_oddsApart wsX2_oddsIfMay := gi_sub (fun w h => List.mem_cons_of_mem _ (List.mem_append_left _ (List.mem_append_left _ (List.mem_append_left _ (List.mem_append_left _ (List.mem_append_right _ h)))))) gd_wsX2_oddsIfMay
set_option maxRecDepth 20000 in
theorem gX2_oddsApart_X2_oddsIfMay : GoodIn wsX2_oddsApart (wsV RX2 53 RX2 yX2_oddsIfMay wsX2_oddsIfMay) := goodIn_app (goodIn_r _ [8, 9, 10, 11] (by decide +kernel) (by decide +kernel)) ggX2_oddsApart_X2_oddsIfMay
theorem dX2_oddsApart_0 : decode cX2_oddsApart 0 = .ok (.bipush 9, 2) := dcb_16 (n := 9) (by decide +kernel)
theorem dX2_oddsApart_2 : decode cX2_oddsApart 2 = .ok (.istore_n 3, 1) := dc1_62 (by decide +kernel)
theorem dX2_oddsApart_3 : decode cX2_oddsApart 3 = .ok (.iconst 0, 1) := dc1_3 (by decide +kernel)
theorem dX2_oddsApart_4 : decode cX2_oddsApart 4 = .ok (.istore 4, 2) := dcu_54 (by decide +kernel)
theorem dX2_oddsApart_6 : decode cX2_oddsApart 6 = .ok (.iconst 0, 1) := dc1_3 (by decide +kernel)
theorem dX2_oddsApart_7 : decode cX2_oddsApart 7 = .ok (.istore 5, 2) := dcu_54 (by decide +kernel)
theorem dX2_oddsApart_9 : decode cX2_oddsApart 9 = .ok (.iload 5, 2) := dcu_21 (by decide +kernel)
theorem dX2_oddsApart_11 : decode cX2_oddsApart 11 = .ok (.bipush 6, 2) := dcb_16 (n := 6) (by decide +kernel)
theorem dX2_oddsApart_13 : decode cX2_oddsApart 13 = .ok (.if_icmp .ge 40, 3) := dcs_162 (n := 40) (by decide +kernel)
theorem dX2_oddsApart_16 : decode cX2_oddsApart 16 = .ok (.aload_n 0, 1) := dc1_42 (by decide +kernel)
theorem dX2_oddsApart_17 : decode cX2_oddsApart 17 = .ok (.aload_n 1, 1) := dc1_43 (by decide +kernel)
theorem dX2_oddsApart_18 : decode cX2_oddsApart 18 = .ok (.iload_n 2, 1) := dc1_28 (by decide +kernel)
theorem dX2_oddsApart_19 : decode cX2_oddsApart 19 = .ok (.iload 5, 2) := dcu_21 (by decide +kernel)
theorem dX2_oddsApart_21 : decode cX2_oddsApart 21 = .ok (.invokevirtual 53, 3) := dcw_182 (by decide +kernel)
theorem dX2_oddsApart_24 : decode cX2_oddsApart 24 = .ok (.istore 6, 2) := dcu_54 (by decide +kernel)
theorem dX2_oddsApart_26 : decode cX2_oddsApart 26 = .ok (.iload 6, 2) := dcu_21 (by decide +kernel)
theorem dX2_oddsApart_28 : decode cX2_oddsApart 28 = .ok (.ifCond .le 19, 3) := dcs_158 (n := 19) (by decide +kernel)
theorem dX2_oddsApart_31 : decode cX2_oddsApart 31 = .ok (.iload_n 3, 1) := dc1_29 (by decide +kernel)
theorem dX2_oddsApart_32 : decode cX2_oddsApart 32 = .ok (.iload 6, 2) := dcu_21 (by decide +kernel)
theorem dX2_oddsApart_34 : decode cX2_oddsApart 34 = .ok (.invokestatic 87, 3) := dcw_184 (by decide +kernel)
theorem dX2_oddsApart_37 : decode cX2_oddsApart 37 = .ok (.istore_n 3, 1) := dc1_62 (by decide +kernel)
theorem dX2_oddsApart_38 : decode cX2_oddsApart 38 = .ok (.iload 4, 2) := dcu_21 (by decide +kernel)
theorem dX2_oddsApart_40 : decode cX2_oddsApart 40 = .ok (.iload 6, 2) := dcu_21 (by decide +kernel)
theorem dX2_oddsApart_42 : decode cX2_oddsApart 42 = .ok (.invokestatic 79, 3) := dcw_184 (by decide +kernel)
theorem dX2_oddsApart_45 : decode cX2_oddsApart 45 = .ok (.istore 4, 2) := dcu_54 (by decide +kernel)
theorem dX2_oddsApart_47 : decode cX2_oddsApart 47 = .ok (.iinc 5 1, 3) := dc_iinc (m := 1) (by decide +kernel)
theorem dX2_oddsApart_50 : decode cX2_oddsApart 50 = .ok (.goto (-41), 3) := dcs_167 (n := 65495) (by decide +kernel)
theorem dX2_oddsApart_53 : decode cX2_oddsApart 53 = .ok (.iconst 0, 1) := dc1_3 (by decide +kernel)
theorem dX2_oddsApart_54 : decode cX2_oddsApart 54 = .ok (.iload 4, 2) := dcu_21 (by decide +kernel)
theorem dX2_oddsApart_56 : decode cX2_oddsApart 56 = .ok (.iload_n 3, 1) := dc1_29 (by decide +kernel)
theorem dX2_oddsApart_57 : decode cX2_oddsApart 57 = .ok (.isub, 1) := dc1_100 (by decide +kernel)
theorem dX2_oddsApart_58 : decode cX2_oddsApart 58 = .ok (.invokestatic 79, 3) := dcw_184 (by decide +kernel)
theorem dX2_oddsApart_61 : decode cX2_oddsApart 61 = .ok (.ireturn, 1) := dc1_172 (by decide +kernel)
theorem ggX2_fillRow_X2_oddsIfMay : GoodIn wsX2_fillRow wsX2_oddsIfMay := gi_sub (fun w h => List.mem_cons_of_mem _ (List.mem_append_left _ (List.mem_append_left _ (List.mem_append_left _ (List.mem_append_left _ (List.mem_append_right _ h)))))) gd_wsX2_oddsIfMay
set_option maxRecDepth 20000 in
theorem gX2_fillRow_X2_oddsIfMay : GoodIn wsX2_fillRow (wsV RX2 53 RX2 yX2_oddsIfMay wsX2_oddsIfMay) := goodIn_app (goodIn_r _ [1, 2, 3, 4] (by decide +kernel) (by decide +kernel)) ggX2_fillRow_X2_oddsIfMay
theorem dX2_fillRow_0 : decode cX2_fillRow 0 = .ok (.iconst 1, 1) := dc1_4 (by decide +kernel)
theorem dX2_fillRow_1 : decode cX2_fillRow 1 = .ok (.istore 5, 2) := dcu_54 (by decide +kernel)
theorem dX2_fillRow_3 : decode cX2_fillRow 3 = .ok (.aload_n 2, 1) := dc1_44 (by decide +kernel)
theorem dX2_fillRow_4 : decode cX2_fillRow 4 = .ok (.iconst 0, 1) := dc1_3 (by decide +kernel)
theorem dX2_fillRow_5 : decode cX2_fillRow 5 = .ok (.iconst 1, 1) := dc1_4 (by decide +kernel)
theorem dX2_fillRow_6 : decode cX2_fillRow 6 = .ok (.iastore, 1) := dc1_79 (by decide +kernel)
theorem dX2_fillRow_7 : decode cX2_fillRow 7 = .ok (.iload_n 3, 1) := dc1_29 (by decide +kernel)
theorem dX2_fillRow_8 : decode cX2_fillRow 8 = .ok (.istore 6, 2) := dcu_54 (by decide +kernel)
theorem dX2_fillRow_10 : decode cX2_fillRow 10 = .ok (.iload 6, 2) := dcu_21 (by decide +kernel)
theorem dX2_fillRow_12 : decode cX2_fillRow 12 = .ok (.iload 4, 2) := dcu_21 (by decide +kernel)
theorem dX2_fillRow_14 : decode cX2_fillRow 14 = .ok (.if_icmp .ge 74, 3) := dcs_162 (n := 74) (by decide +kernel)
theorem dX2_fillRow_17 : decode cX2_fillRow 17 = .ok (.iconst 5, 1) := dc1_8 (by decide +kernel)
theorem dX2_fillRow_18 : decode cX2_fillRow 18 = .ok (.istore 7, 2) := dcu_54 (by decide +kernel)
theorem dX2_fillRow_20 : decode cX2_fillRow 20 = .ok (.iload 7, 2) := dcu_21 (by decide +kernel)
theorem dX2_fillRow_22 : decode cX2_fillRow 22 = .ok (.ifCond .lt 53, 3) := dcs_155 (n := 53) (by decide +kernel)
theorem dX2_fillRow_25 : decode cX2_fillRow 25 = .ok (.aload_n 0, 1) := dc1_42 (by decide +kernel)
theorem dX2_fillRow_26 : decode cX2_fillRow 26 = .ok (.aload_n 1, 1) := dc1_43 (by decide +kernel)
theorem dX2_fillRow_27 : decode cX2_fillRow 27 = .ok (.iload 6, 2) := dcu_21 (by decide +kernel)
theorem dX2_fillRow_29 : decode cX2_fillRow 29 = .ok (.iload 7, 2) := dcu_21 (by decide +kernel)
theorem dX2_fillRow_31 : decode cX2_fillRow 31 = .ok (.invokevirtual 53, 3) := dcw_182 (by decide +kernel)
theorem dX2_fillRow_34 : decode cX2_fillRow 34 = .ok (.istore 8, 2) := dcu_54 (by decide +kernel)
theorem dX2_fillRow_36 : decode cX2_fillRow 36 = .ok (.iconst 0, 1) := dc1_3 (by decide +kernel)
theorem dX2_fillRow_37 : decode cX2_fillRow 37 = .ok (.istore 9, 2) := dcu_54 (by decide +kernel)
theorem dX2_fillRow_39 : decode cX2_fillRow 39 = .ok (.iload 9, 2) := dcu_21 (by decide +kernel)
theorem dX2_fillRow_41 : decode cX2_fillRow 41 = .ok (.iload 5, 2) := dcu_21 (by decide +kernel)
theorem dX2_fillRow_43 : decode cX2_fillRow 43 = .ok (.if_icmp .ge 26, 3) := dcs_162 (n := 26) (by decide +kernel)
theorem dX2_fillRow_46 : decode cX2_fillRow 46 = .ok (.aload_n 2, 1) := dc1_44 (by decide +kernel)
theorem dX2_fillRow_47 : decode cX2_fillRow 47 = .ok (.iload 7, 2) := dcu_21 (by decide +kernel)
theorem dX2_fillRow_49 : decode cX2_fillRow 49 = .ok (.iload 5, 2) := dcu_21 (by decide +kernel)
theorem dX2_fillRow_51 : decode cX2_fillRow 51 = .ok (.imul, 1) := dc1_104 (by decide +kernel)
theorem dX2_fillRow_52 : decode cX2_fillRow 52 = .ok (.iload 9, 2) := dcu_21 (by decide +kernel)
theorem dX2_fillRow_54 : decode cX2_fillRow 54 = .ok (.iadd, 1) := dc1_96 (by decide +kernel)
theorem dX2_fillRow_55 : decode cX2_fillRow 55 = .ok (.aload_n 2, 1) := dc1_44 (by decide +kernel)
theorem dX2_fillRow_56 : decode cX2_fillRow 56 = .ok (.iload 9, 2) := dcu_21 (by decide +kernel)
theorem dX2_fillRow_58 : decode cX2_fillRow 58 = .ok (.iaload, 1) := dc1_46 (by decide +kernel)
theorem dX2_fillRow_59 : decode cX2_fillRow 59 = .ok (.iload 8, 2) := dcu_21 (by decide +kernel)
theorem dX2_fillRow_61 : decode cX2_fillRow 61 = .ok (.imul, 1) := dc1_104 (by decide +kernel)
theorem dX2_fillRow_62 : decode cX2_fillRow 62 = .ok (.iastore, 1) := dc1_79 (by decide +kernel)
theorem dX2_fillRow_63 : decode cX2_fillRow 63 = .ok (.iinc 9 1, 3) := dc_iinc (m := 1) (by decide +kernel)
theorem dX2_fillRow_66 : decode cX2_fillRow 66 = .ok (.goto (-27), 3) := dcs_167 (n := 65509) (by decide +kernel)
theorem dX2_fillRow_69 : decode cX2_fillRow 69 = .ok (.iinc 7 (-1), 3) := dc_iinc (m := 255) (by decide +kernel)
theorem dX2_fillRow_72 : decode cX2_fillRow 72 = .ok (.goto (-52), 3) := dcs_167 (n := 65484) (by decide +kernel)
theorem dX2_fillRow_75 : decode cX2_fillRow 75 = .ok (.iload 5, 2) := dcu_21 (by decide +kernel)
theorem dX2_fillRow_77 : decode cX2_fillRow 77 = .ok (.bipush 6, 2) := dcb_16 (n := 6) (by decide +kernel)
theorem dX2_fillRow_79 : decode cX2_fillRow 79 = .ok (.imul, 1) := dc1_104 (by decide +kernel)
theorem dX2_fillRow_80 : decode cX2_fillRow 80 = .ok (.istore 5, 2) := dcu_54 (by decide +kernel)
theorem dX2_fillRow_82 : decode cX2_fillRow 82 = .ok (.iinc 6 1, 3) := dc_iinc (m := 1) (by decide +kernel)
theorem dX2_fillRow_85 : decode cX2_fillRow 85 = .ok (.goto (-75), 3) := dcs_167 (n := 65461) (by decide +kernel)
theorem dX2_fillRow_88 : decode cX2_fillRow 88 = .ok (.iload 5, 2) := dcu_21 (by decide +kernel)
theorem dX2_fillRow_90 : decode cX2_fillRow 90 = .ok (.ireturn, 1) := dc1_172 (by decide +kernel)
theorem LX2_leftBehind_24 : Cond.fieldLink RX2 24 "GuessFerry$Outlook" "sound" "LGuessFerry$Sound;" ∈ wsX2_leftBehind := by decide +kernel
theorem LX2_leftBehind_28 : Cond.fieldLink RX2 28 "GuessFerry$Outlook" "crossing" "LGuessFerry$Crossing;" ∈ wsX2_leftBehind := by decide +kernel
theorem LX2_leftBehind_E_X0_mayBe : Cond.selects RX0 yX0_mayBe yX0_mayBe ∈ wsX2_leftBehind := by decide +kernel
theorem LX2_leftBehind_I_X0 : Cond.initialized RX0 ∈ wsX2_leftBehind := by decide +kernel
theorem LX2_leftBehind_I_X10 : Cond.initialized RX10 ∈ wsX2_leftBehind := by decide +kernel
theorem LX2_leftBehind_M79 : Cond.methodLink RX2 79 Lib.Math.max.name ∈ wsX2_leftBehind := by decide +kernel
theorem LX2_leftBehind_MCmax : Cond.code Lib.Math.max.name Lib.Math.max.code 2 (some .int) ∈ wsX2_leftBehind := by decide +kernel
theorem LX2_leftBehind_MI : Cond.initialized "java/lang/Math" ∈ wsX2_leftBehind := by decide +kernel
theorem LX2_leftBehind_MSmax : Cond.static Lib.Math.max.name ∈ wsX2_leftBehind := by decide +kernel
theorem LX2_leftBehind_N_X0_mayBe : Cond.instanceMethod yX0_mayBe ∈ wsX2_leftBehind := by decide +kernel
theorem LX2_leftBehind_S_X10_has : Cond.static yX10_has ∈ wsX2_leftBehind := by decide +kernel
theorem LX2_leftBehind_S_X10_thingIn : Cond.static yX10_thingIn ∈ wsX2_leftBehind := by decide +kernel
theorem inX2_leftBehind_X2 : ∀ w ∈ u_ws RX2 TX2 6, w ∈ wsX2_leftBehind := by decide +kernel
theorem inX2_leftBehind_X5 : ∀ w ∈ u_ws RX5 TX5 10, w ∈ wsX2_leftBehind := by decide +kernel
set_option maxHeartbeats 4000000 in
set_option maxRecDepth 100000 in
theorem bkX2_leftBehind_73 {l : Launch} {dC : Nat → ClassId} {dI : Nat → Nat → Nat} {cB cI cJ cZ cS : ClassId} {a b : Nat → Nat} {as : List Value} {r : Int32} {s' : JS} {k16 : JS → Int32 → Int32 → Int32 → Int32 → Option (Int32 × JS)} (hk16 : ∀ (s : JS) (x2 : Int32) (x3 : Int32) (x4 : Int32) (x5 : Int32), k16 s x2 x3 x4 x5 = some (r, s') → BlkI l yX2_leftBehind wsX2_leftBehind ({ frames := 2, cells := 0, slots := 0, locals := 44 }) cX2_leftBehind 7 (some .int) (dC, dI) (tysA cB cI cJ cZ cS) as 16 (wJ cB cI cJ cZ cS a b s) [(0, .ref (a 36)), (1, .ref (b 0)), (2, .int x2), (3, .int x3), (4, .int x4), (5, .int x5)] [] (fun x u => x = r ∧ u = (wJ cB cI cJ cZ cS a b s'))) (s : JS) (x2 : Int32) (x3 : Int32) (x4 : Int32) (x5 : Int32) (x6 : Int32) (hB : kX2_leftBehind_73 k16 s x2 x3 x4 x5 x6 = some (r, s')) : BlkI l yX2_leftBehind wsX2_leftBehind ({ frames := 2, cells := 0, slots := 0, locals := 44 }) cX2_leftBehind 7 (some .int) (dC, dI) (tysA cB cI cJ cZ cS) as 73 (wJ cB cI cJ cZ cS a b s) [(0, .ref (a 36)), (1, .ref (b 0)), (2, .int x2), (3, .int x3), (4, .int x4), (5, .int x5), (6, .int x6)] [] (fun x u => x = r ∧ u = (wJ cB cI cJ cZ cS a b s')) := by
  intro p e s0 m below meth c A E H locs ls hP hD hS hl
  obtain ⟨C, hr, hlocks, hA, hK, hN⟩ := id E
  obtain ⟨hx, hb, hml, hown, hts⟩ := id C
  unfold kX2_leftBehind_73 at hB
  refine lv_iload hx hb dX2_leftBehind_73 (lv_at hl 4 rfl) ?_
  refine lv_iload hx hb dX2_leftBehind_75 (lv_at hl 6 rfl) ?_
  refine lv_imul hx hb dX2_leftBehind_77 ?_
  refine lv_istore (lv' := [(4, .int (x4 * x6)), (0, .ref (a 36)), (1, .ref (b 0)), (2, .int x2), (3, .int x3), (5, .int x5), (6, .int x6)]) hx hb dX2_leftBehind_78 hl (by decide) rfl (fun ls hl => ?_)
  refine lv_iinc (v := (x5 + (-1))) (lv' := [(5, .int (x5 + (-1))), (4, .int (x4 * x6)), (0, .ref (a 36)), (1, .ref (b 0)), (2, .int x2), (3, .int x3), (6, .int x6)]) hx hb dX2_leftBehind_80 hl (k := 5) rfl (rfl) (by decide) rfl (fun ls hl => ?_)
  refine lv_goto (tgt := 16) hx hb dX2_leftBehind_83 (by decide) ?_
  exact hk16 _ _ _ _ _ hB p e s0 m below meth c A E H locs ls hP hD hS (lv_sub hl [2, 3, 4, 5, 1, 0] rfl)
set_option maxHeartbeats 4000000 in
set_option maxRecDepth 100000 in
theorem bkX2_leftBehind_16 {l : Launch} {dC : Nat → ClassId} {dI : Nat → Nat → Nat} {cB cI cJ cZ cS : ClassId} {a b : Nat → Nat} {as : List Value} {r : Int32} {s' : JS} {k16 : JS → Int32 → Int32 → Int32 → Int32 → Option (Int32 × JS)} (hk16 : ∀ (s : JS) (x2 : Int32) (x3 : Int32) (x4 : Int32) (x5 : Int32), k16 s x2 x3 x4 x5 = some (r, s') → BlkI l yX2_leftBehind wsX2_leftBehind ({ frames := 2, cells := 0, slots := 0, locals := 44 }) cX2_leftBehind 7 (some .int) (dC, dI) (tysA cB cI cJ cZ cS) as 16 (wJ cB cI cJ cZ cS a b s) [(0, .ref (a 36)), (1, .ref (b 0)), (2, .int x2), (3, .int x3), (4, .int x4), (5, .int x5)] [] (fun x u => x = r ∧ u = (wJ cB cI cJ cZ cS a b s'))) (s : JS) (x2 : Int32) (x3 : Int32) (x4 : Int32) (x5 : Int32) (hB : kX2_leftBehind_16 k16 s x2 x3 x4 x5 = some (r, s')) : BlkI l yX2_leftBehind wsX2_leftBehind ({ frames := 2, cells := 0, slots := 0, locals := 44 }) cX2_leftBehind 7 (some .int) (dC, dI) (tysA cB cI cJ cZ cS) as 16 (wJ cB cI cJ cZ cS a b s) [(0, .ref (a 36)), (1, .ref (b 0)), (2, .int x2), (3, .int x3), (4, .int x4), (5, .int x5)] [] (fun x u => x = r ∧ u = (wJ cB cI cJ cZ cS a b s')) := by
  intro p e s0 m below meth c A E H locs ls hP hD hS hl
  obtain ⟨C, hr, hlocks, hA, hK, hN⟩ := id E
  obtain ⟨hx, hb, hml, hown, hts⟩ := id C
  unfold kX2_leftBehind_16 at hB
  refine lv_iload hx hb dX2_leftBehind_16 (lv_at hl 5 rfl) ?_
  refine lv_if_lt (tgt := 86) hx hb dX2_leftBehind_18 (by decide) (fun c1 => ?_) (fun c1 => ?_)
  · have hB := if_p hB c1
    refine lv_iload_n hx hb dX2_leftBehind_86 rfl (lv_at hl 3 rfl) ?_
    exact q_iret C hr hlocks hK hP hD hS (Nat.le_of_ble_eq_true rfl) (Nat.le_of_ble_eq_true rfl) dX2_leftBehind_87 (by cases hB; exact ⟨rfl, rfl⟩)
  · have hB := if_n hB c1
    refine lv_aload_n hx hb dX2_leftBehind_21 rfl (lv_at hl 0 rfl) ?_
    refine lv_aload_n hx hb dX2_leftBehind_22 rfl (lv_at hl 1 rfl) ?_
    refine lv_iload hx hb dX2_leftBehind_23 (lv_at hl 5 rfl) ?_
    obtain ⟨q_, s2, hc, hB⟩ := bindI_inv hB
    refine q_goiF (va_runV (As := [.ref (b 0), .int x5]) (rest := []) C (ckX2_mayCount hc _) (cwV 2 hts gX2_leftBehind_X2_mayCount rfl rfl rfl (by decide +kernel) ⟨Nat.le_of_ble_eq_true rfl, Nat.le_of_ble_eq_true rfl⟩) (q_preV hK hP (ci := 2) (q0 := 42) rfl rfl rfl (q_preF hN hK hP hD)) rfl rfl hl.1 rfl (lv_room (Nat.le_of_ble_eq_true rfl)) dX2_leftBehind_25 ⟨Nat.le_of_ble_eq_true rfl, Nat.le_of_ble_eq_true rfl⟩) hD hS hA (fun r3 w1 H locs hw hP hD hS => ?_)
    obtain ⟨hq_, hw⟩ := hw; subst hw; subst hq_
    refine lv_istore (lv' := [(6, .int r3), (0, .ref (a 36)), (1, .ref (b 0)), (2, .int x2), (3, .int x3), (4, .int x4), (5, .int x5)]) hx hb dX2_leftBehind_28 hl (by decide) rfl (fun ls hl => ?_)
    refine lv_aload_n hx hb dX2_leftBehind_30 rfl (lv_at hl 1 rfl) ?_
    refine q_get (v := .ref (a 35)) C inX2_leftBehind_X2 hK hP 42 rfl rfl 1 (by decide) rfl LX2_leftBehind_28 rfl dX2_leftBehind_31 ?_
    refine lv_aload_n hx hb dX2_leftBehind_34 rfl (lv_at hl 2 rfl) ?_
    refine lv_iload hx hb dX2_leftBehind_35 (lv_at hl 6 rfl) ?_
    obtain ⟨q_, s4, hc, hB⟩ := bindI_inv hB
    refine q_goiF (va_runVN (As := [.ref (b 0), .int x5]) (rest := []) C (ckX0_mayBe hc _) ⟨va_cnB 2 hts gX2_leftBehind_X0_mayBe_n32 rfl rfl rfl (hN _ nwM_X2_32 rfl) (hts _ LX2_leftBehind_I_X0) (by decide +kernel) ⟨Nat.le_of_ble_eq_true rfl, Nat.le_of_ble_eq_true rfl⟩, hts _ LX2_leftBehind_N_X0_mayBe, hts _ LX2_leftBehind_E_X0_mayBe⟩ (q_preV hK hP (ci := 0) (q0 := 41) rfl rfl rfl (q_preF hN hK hP hD)) rfl rfl hl.1 rfl (lv_room (Nat.le_of_ble_eq_true rfl)) dX2_leftBehind_37 ⟨Nat.le_of_ble_eq_true rfl, Nat.le_of_ble_eq_true rfl⟩) hD hS hA (fun r5 w1 H locs hw hP hD hS => ?_)
    obtain ⟨hq_, hw⟩ := hw; subst hw; subst hq_
    refine lv_iload_n hx hb dX2_leftBehind_40 rfl (lv_at hl 3 rfl) ?_
    refine lv_iload hx hb dX2_leftBehind_41 (lv_at hl 6 rfl) ?_
    obtain ⟨q_, hc, hB⟩ := bindP_inv hB
    refine q_goi0 (va_runSN (As := [.int x2, .int x5]) (rest := [.int r5]) C (ckX10_thingIn hc _) ⟨va_cnB 2 hts gX2_leftBehind_X10_thingIn_n65 rfl rfl rfl (hN _ nwM_X2_65 rfl) (hts _ LX2_leftBehind_I_X10) (by decide +kernel) ⟨Nat.le_of_ble_eq_true rfl, Nat.le_of_ble_eq_true rfl⟩, hts _ LX2_leftBehind_S_X10_thingIn, trivial⟩ (q_pre0 hN hK) rfl rfl hl.1 rfl (lv_room (Nat.le_of_ble_eq_true rfl)) dX2_leftBehind_43 ⟨Nat.le_of_ble_eq_true rfl, Nat.le_of_ble_eq_true rfl⟩) hP hD hS hA (fun r6 w1 H locs hw hP hS => ?_)
    subst hw
    obtain ⟨q_, hc, hB⟩ := bindP_inv hB
    refine q_goi0 (va_runSN (As := [.int r5, .int r6]) (rest := []) C (ckX10_has hc _) ⟨va_cnB 2 hts gX2_leftBehind_X10_has_n57 rfl rfl rfl (hN _ nwM_X2_57 rfl) (hts _ LX2_leftBehind_I_X10) (by decide +kernel) ⟨Nat.le_of_ble_eq_true rfl, Nat.le_of_ble_eq_true rfl⟩, hts _ LX2_leftBehind_S_X10_has, trivial⟩ (q_pre0 hN hK) rfl rfl hl.1 rfl (lv_room (Nat.le_of_ble_eq_true rfl)) dX2_leftBehind_46 ⟨Nat.le_of_ble_eq_true rfl, Nat.le_of_ble_eq_true rfl⟩) hP hD hS hA (fun r7 w1 H locs hw hP hS => ?_)
    subst hw
    refine lv_if_eq (tgt := 67) hx hb dX2_leftBehind_49 (by decide) (fun c8 => ?_) (fun c8 => ?_)
    · have hB := if_p hB c8
      refine lv_iload hx hb dX2_leftBehind_67 (lv_at hl 0 rfl) ?_
      refine lv_iload hx hb dX2_leftBehind_69 (lv_at hl 5 rfl) ?_
      refine lv_imul hx hb dX2_leftBehind_71 ?_
      refine lv_istore_n (lv' := [(3, .int (r3 * x4)), (6, .int r3), (0, .ref (a 36)), (1, .ref (b 0)), (2, .int x2), (4, .int x4), (5, .int x5)]) hx hb dX2_leftBehind_72 rfl hl (by decide) rfl (fun ls hl => ?_)
      exact bkX2_leftBehind_73 (hk16) _ _ _ _ _ _ hB p e s0 m below meth c A E H locs ls hP hD hS (lv_sub hl [2, 3, 4, 0, 5, 6, 1] rfl)
    · have hB := if_n hB c8
      refine lv_iload_n hx hb dX2_leftBehind_52 rfl (lv_at hl 4 rfl) ?_
      refine lv_iload hx hb dX2_leftBehind_53 (lv_at hl 0 rfl) ?_
      refine lv_iconst (v := 1) hx hb dX2_leftBehind_55 (by decide) ?_
      refine lv_isub hx hb dX2_leftBehind_56 ?_
      refine lv_iload hx hb dX2_leftBehind_57 (lv_at hl 5 rfl) ?_
      refine lv_imul hx hb dX2_leftBehind_59 ?_
      refine va_mmax hx hb (hml.trans hl.1.symm) hown (hts _ LX2_leftBehind_M79) (hts _ LX2_leftBehind_MSmax) (hts _ LX2_leftBehind_MI) (hts _ LX2_leftBehind_MCmax) (Nat.le_of_ble_eq_true rfl) (Nat.le_of_ble_eq_true rfl) (Nat.zero_le _) (Nat.zero_le _) dX2_leftBehind_60 ?_
      refine q_top (y := (mmax x3 ((r3 - 1) * x4))) rfl ?_
      refine lv_istore_n (lv' := [(3, .int (mmax x3 ((r3 - 1) * x4))), (6, .int r3), (0, .ref (a 36)), (1, .ref (b 0)), (2, .int x2), (4, .int x4), (5, .int x5)]) hx hb dX2_leftBehind_63 rfl hl (by decide) rfl (fun ls hl => ?_)
      refine lv_goto (tgt := 73) hx hb dX2_leftBehind_64 (by decide) ?_
      exact bkX2_leftBehind_73 (hk16) _ _ _ _ _ _ hB p e s0 m below meth c A E H locs ls hP hD hS (lv_sub hl [2, 3, 4, 0, 5, 6, 1] rfl)
theorem bkX2_leftBehind_16L {l : Launch} {dC : Nat → ClassId} {dI : Nat → Nat → Nat} {cB cI cJ cZ cS : ClassId} {a b : Nat → Nat} {as : List Value} {r : Int32} {s' : JS} : ∀ (n : Nat) (s : JS) (x2 : Int32) (x3 : Int32) (x4 : Int32) (x5 : Int32), kX2_leftBehind_16L n s x2 x3 x4 x5 = some (r, s') → BlkI l yX2_leftBehind wsX2_leftBehind ({ frames := 2, cells := 0, slots := 0, locals := 44 }) cX2_leftBehind 7 (some .int) (dC, dI) (tysA cB cI cJ cZ cS) as 16 (wJ cB cI cJ cZ cS a b s) [(0, .ref (a 36)), (1, .ref (b 0)), (2, .int x2), (3, .int x3), (4, .int x4), (5, .int x5)] [] (fun x u => x = r ∧ u = (wJ cB cI cJ cZ cS a b s')) := by
  intro n
  induction n with
  | zero => intro s x2 x3 x4 x5 hB; exact none_ne hB
  | succ n ih => intro s x2 x3 x4 x5 hB; exact bkX2_leftBehind_16 ih _ _ _ _ _ hB
set_option maxHeartbeats 4000000 in
set_option maxRecDepth 100000 in
theorem bkX2_leftBehind {l : Launch} {dC : Nat → ClassId} {dI : Nat → Nat → Nat} {cB cI cJ cZ cS : ClassId} {a b : Nat → Nat} {as : List Value} {r : Int32} {s' : JS} (s : JS) (x2 : Int32) (hB : kX2_leftBehind s x2 = some (r, s')) : BlkI l yX2_leftBehind wsX2_leftBehind ({ frames := 2, cells := 0, slots := 0, locals := 44 }) cX2_leftBehind 7 (some .int) (dC, dI) (tysA cB cI cJ cZ cS) as 0 (wJ cB cI cJ cZ cS a b s) [(0, .ref (a 36)), (1, .ref (b 0)), (2, .int x2)] [] (fun x u => x = r ∧ u = (wJ cB cI cJ cZ cS a b s')) := by
  intro p e s0 m below meth c A E H locs ls hP hD hS hl
  obtain ⟨C, hr, hlocks, hA, hK, hN⟩ := id E
  obtain ⟨hx, hb, hml, hown, hts⟩ := id C
  unfold kX2_leftBehind at hB
  refine lv_iconst (v := 1) hx hb dX2_leftBehind_0 (by decide) ?_
  refine lv_istore_n (lv' := [(3, .int 1), (0, .ref (a 36)), (1, .ref (b 0)), (2, .int x2)]) hx hb dX2_leftBehind_1 rfl hl (by decide) rfl (fun ls hl => ?_)
  refine lv_iconst (v := 1) hx hb dX2_leftBehind_2 (by decide) ?_
  refine lv_istore (lv' := [(4, .int 1), (3, .int 1), (0, .ref (a 36)), (1, .ref (b 0)), (2, .int x2)]) hx hb dX2_leftBehind_3 hl (by decide) rfl (fun ls hl => ?_)
  refine lv_aload_n hx hb dX2_leftBehind_5 rfl (lv_at hl 2 rfl) ?_
  refine q_get (v := .ref (a 2)) C inX2_leftBehind_X2 hK hP 42 rfl rfl 0 (by decide) rfl LX2_leftBehind_24 rfl dX2_leftBehind_6 ?_
  refine q_getN (v := .int (s.k.v 1)) C hN inX2_leftBehind_X5 hK hP 8 rfl rfl 6 (by decide) rfl nwF_X2_44 rfl dX2_leftBehind_9 ?_
  refine lv_iconst (v := 1) hx hb dX2_leftBehind_12 (by decide) ?_
  refine lv_isub hx hb dX2_leftBehind_13 ?_
  refine lv_istore (lv' := [(5, .int ((s.k.v 1) - 1)), (4, .int 1), (3, .int 1), (0, .ref (a 36)), (1, .ref (b 0)), (2, .int x2)]) hx hb dX2_leftBehind_14 hl (by decide) rfl (fun ls hl => ?_)
  exact bkX2_leftBehind_16L fu _ _ _ _ _ hB p e s0 m below meth c A E H locs ls hP hD hS (lv_sub hl [3, 4, 5, 2, 1, 0] rfl)
theorem ckX2_leftBehind {l : Launch} {dC : Nat → ClassId} {dI : Nat → Nat → Nat} {cB cI cJ cZ cS : ClassId} {a b : Nat → Nat} {r : Int32} {s' : JS} {s : JS} {x2 : Int32} (hB : kX2_leftBehind s x2 = some (r, s')) : CI l yX2_leftBehind wsX2_leftBehind ({ frames := 2, cells := 0, slots := 0, locals := 44 }) (dC, dI) (tysA cB cI cJ cZ cS) (wJ cB cI cJ cZ cS a b s) [.ref (a 36), .ref (b 0), .int x2] (fun x u => x = r ∧ u = (wJ cB cI cJ cZ cS a b s')) :=
  CI_of (cc := cX2_leftBehind) (maxL := 7) (ret := (some .int)) (by decide) rfl (Nat.le_of_ble_eq_true rfl) (bkX2_leftBehind _ _ hB)
theorem LX2_wisestGuess_24 : Cond.fieldLink RX2 24 "GuessFerry$Outlook" "sound" "LGuessFerry$Sound;" ∈ wsX2_wisestGuess := by decide +kernel
theorem LX2_wisestGuess_28 : Cond.fieldLink RX2 28 "GuessFerry$Outlook" "crossing" "LGuessFerry$Crossing;" ∈ wsX2_wisestGuess := by decide +kernel
theorem LX2_wisestGuess_E_X0_mayBe : Cond.selects RX0 yX0_mayBe yX0_mayBe ∈ wsX2_wisestGuess := by decide +kernel
theorem LX2_wisestGuess_I_X0 : Cond.initialized RX0 ∈ wsX2_wisestGuess := by decide +kernel
theorem LX2_wisestGuess_N_X0_mayBe : Cond.instanceMethod yX0_mayBe ∈ wsX2_wisestGuess := by decide +kernel
theorem inX2_wisestGuess_X2 : ∀ w ∈ u_ws RX2 TX2 6, w ∈ wsX2_wisestGuess := by decide +kernel
theorem inX2_wisestGuess_X5 : ∀ w ∈ u_ws RX5 TX5 10, w ∈ wsX2_wisestGuess := by decide +kernel
set_option maxHeartbeats 4000000 in
set_option maxRecDepth 100000 in
theorem bkX2_wisestGuess_7 {l : Launch} {dC : Nat → ClassId} {dI : Nat → Nat → Nat} {cB cI cJ cZ cS : ClassId} {a b : Nat → Nat} {as : List Value} {r : Int32} {s' : JS} {k7 : JS → Int32 → Int32 → Int32 → Option (Int32 × JS)} (hk7 : ∀ (s : JS) (x2 : Int32) (x3 : Int32) (x4 : Int32), k7 s x2 x3 x4 = some (r, s') → BlkI l yX2_wisestGuess wsX2_wisestGuess ({ frames := 2, cells := 0, slots := 0, locals := 44 }) cX2_wisestGuess 5 (some .int) (dC, dI) (tysA cB cI cJ cZ cS) as 7 (wJ cB cI cJ cZ cS a b s) [(0, .ref (a 36)), (1, .ref (b 0)), (2, .int x2), (3, .int x3), (4, .int x4)] [] (fun x u => x = r ∧ u = (wJ cB cI cJ cZ cS a b s'))) (s : JS) (x2 : Int32) (x3 : Int32) (x4 : Int32) (hB : kX2_wisestGuess_7 k7 s x2 x3 x4 = some (r, s')) : BlkI l yX2_wisestGuess wsX2_wisestGuess ({ frames := 2, cells := 0, slots := 0, locals := 44 }) cX2_wisestGuess 5 (some .int) (dC, dI) (tysA cB cI cJ cZ cS) as 7 (wJ cB cI cJ cZ cS a b s) [(0, .ref (a 36)), (1, .ref (b 0)), (2, .int x2), (3, .int x3), (4, .int x4)] [] (fun x u => x = r ∧ u = (wJ cB cI cJ cZ cS a b s')) := by
  intro p e s0 m below meth c A E H locs ls hP hD hS hl
  obtain ⟨C, hr, hlocks, hA, hK, hN⟩ := id E
  obtain ⟨hx, hb, hml, hown, hts⟩ := id C
  unfold kX2_wisestGuess_7 at hB
  refine lv_iload hx hb dX2_wisestGuess_7 (lv_at hl 4 rfl) ?_
  refine lv_aload_n hx hb dX2_wisestGuess_9 rfl (lv_at hl 0 rfl) ?_
  refine q_get (v := .ref (a 2)) C inX2_wisestGuess_X2 hK hP 42 rfl rfl 0 (by decide) rfl LX2_wisestGuess_24 rfl dX2_wisestGuess_10 ?_
  refine q_getN (v := .int (s.k.v 1)) C hN inX2_wisestGuess_X5 hK hP 8 rfl rfl 6 (by decide) rfl nwF_X2_44 rfl dX2_wisestGuess_13 ?_
  refine lv_icmp_ge (tgt := 61) hx hb dX2_wisestGuess_16 (by decide) (fun c1 => ?_) (fun c1 => ?_)
  · have hB := if_p hB c1
    refine lv_iconst (v := 0) hx hb dX2_wisestGuess_61 (by decide) ?_
    exact q_iret C hr hlocks hK hP hD hS (Nat.le_of_ble_eq_true rfl) (Nat.le_of_ble_eq_true rfl) dX2_wisestGuess_62 (by cases hB; exact ⟨rfl, rfl⟩)
  · have hB := if_n hB c1
    refine lv_iload_n hx hb dX2_wisestGuess_19 rfl (lv_at hl 2 rfl) ?_
    refine lv_iload_n hx hb dX2_wisestGuess_20 rfl (lv_at hl 3 rfl) ?_
    refine lv_aload_n hx hb dX2_wisestGuess_21 rfl (lv_at hl 0 rfl) ?_
    refine q_get (v := .ref (a 35)) C inX2_wisestGuess_X2 hK hP 42 rfl rfl 1 (by decide) rfl LX2_wisestGuess_28 rfl dX2_wisestGuess_22 ?_
    refine lv_aload_n hx hb dX2_wisestGuess_25 rfl (lv_at hl 1 rfl) ?_
    refine lv_iload hx hb dX2_wisestGuess_26 (lv_at hl 4 rfl) ?_
    obtain ⟨q_, s2, hc, hB⟩ := bindI_inv hB
    refine q_goiF (va_runVN (As := [.ref (b 0), .int x4]) (rest := [.int x3, .int x2]) C (ckX0_mayBe hc _) ⟨va_cnB 2 hts gX2_wisestGuess_X0_mayBe_n32 rfl rfl rfl (hN _ nwM_X2_32 rfl) (hts _ LX2_wisestGuess_I_X0) (by decide +kernel) ⟨Nat.le_of_ble_eq_true rfl, Nat.le_of_ble_eq_true rfl⟩, hts _ LX2_wisestGuess_N_X0_mayBe, hts _ LX2_wisestGuess_E_X0_mayBe⟩ (q_preV hK hP (ci := 0) (q0 := 41) rfl rfl rfl (q_preF hN hK hP hD)) rfl rfl hl.1 rfl (lv_room (Nat.le_of_ble_eq_true rfl)) dX2_wisestGuess_28 ⟨Nat.le_of_ble_eq_true rfl, Nat.le_of_ble_eq_true rfl⟩) hD hS hA (fun r3 w1 H locs hw hP hD hS => ?_)
    obtain ⟨hq_, hw⟩ := hw; subst hw; subst hq_
    obtain ⟨q_, hc, hB⟩ := bindP_inv hB
    refine q_goi0 (va_runS (As := [.int r3]) (rest := [.int x3, .int x2]) C (ckJ6_numberOfTrailingZeros_0f7a4 hc _) (va_cwS 1 hts gX2_wisestGuess_J6_numberOfTrailingZeros_0f7a4 rfl rfl rfl (by decide +kernel) ⟨Nat.le_of_ble_eq_true rfl, Nat.le_of_ble_eq_true rfl⟩) (q_pre0 hN hK) rfl rfl hl.1 rfl (lv_room (Nat.le_of_ble_eq_true rfl)) dX2_wisestGuess_31 ⟨Nat.le_of_ble_eq_true rfl, Nat.le_of_ble_eq_true rfl⟩) hP hD hS hA (fun r4 w1 H locs hw hP hS => ?_)
    subst hw
    refine lv_imul hx hb dX2_wisestGuess_34 ?_
    refine lv_iadd hx hb dX2_wisestGuess_35 ?_
    refine lv_istore_n (lv' := [(2, .int (x2 + (x3 * r4))), (0, .ref (a 36)), (1, .ref (b 0)), (3, .int x3), (4, .int x4)]) hx hb dX2_wisestGuess_36 rfl hl (by decide) rfl (fun ls hl => ?_)
    refine lv_aload_n hx hb dX2_wisestGuess_37 rfl (lv_at hl 1 rfl) ?_
    refine lv_aload_n hx hb dX2_wisestGuess_38 rfl (lv_at hl 2 rfl) ?_
    refine lv_iload hx hb dX2_wisestGuess_39 (lv_at hl 4 rfl) ?_
    obtain ⟨q_, s5, hc, hB⟩ := bindI_inv hB
    refine q_goiF (va_runV (As := [.ref (b 0), .int x4]) (rest := []) C (ckX2_mayCount hc _) (cwV 2 hts gX2_wisestGuess_X2_mayCount rfl rfl rfl (by decide +kernel) ⟨Nat.le_of_ble_eq_true rfl, Nat.le_of_ble_eq_true rfl⟩) (q_preV hK hP (ci := 2) (q0 := 42) rfl rfl rfl (q_preF hN hK hP hD)) rfl rfl hl.1 rfl (lv_room (Nat.le_of_ble_eq_true rfl)) dX2_wisestGuess_41 ⟨Nat.le_of_ble_eq_true rfl, Nat.le_of_ble_eq_true rfl⟩) hD hS hA (fun r6 w1 H locs hw hP hD hS => ?_)
    obtain ⟨hq_, hw⟩ := hw; subst hw; subst hq_
    refine lv_iconst (v := 1) hx hb dX2_wisestGuess_44 (by decide) ?_
    refine lv_icmp_le (tgt := 50) hx hb dX2_wisestGuess_45 (by decide) (fun c7 => ?_) (fun c7 => ?_)
    · have hB := if_p hB c7
      refine lv_iload_n hx hb dX2_wisestGuess_50 rfl (lv_at hl 3 rfl) ?_
      refine lv_bipush (v := 6) hx hb dX2_wisestGuess_51 (by decide) ?_
      refine lv_imul hx hb dX2_wisestGuess_53 ?_
      refine lv_istore_n (lv' := [(3, .int (x3 * 6)), (2, .int (x2 + (x3 * r4))), (0, .ref (a 36)), (1, .ref (b 0)), (4, .int x4)]) hx hb dX2_wisestGuess_54 rfl hl (by decide) rfl (fun ls hl => ?_)
      refine lv_iinc (v := (x4 + 1)) (lv' := [(4, .int (x4 + 1)), (3, .int (x3 * 6)), (2, .int (x2 + (x3 * r4))), (0, .ref (a 36)), (1, .ref (b 0))]) hx hb dX2_wisestGuess_55 hl (k := 4) rfl (rfl) (by decide) rfl (fun ls hl => ?_)
      refine lv_goto (tgt := 7) hx hb dX2_wisestGuess_58 (by decide) ?_
      exact hk7 _ _ _ _ hB p e s0 m below meth c A E H locs ls hP hD hS (lv_sub hl [3, 4, 2, 1, 0] rfl)
    · have hB := if_n hB c7
      refine lv_iload_n hx hb dX2_wisestGuess_48 rfl (lv_at hl 0 rfl) ?_
      exact q_iret C hr hlocks hK hP hD hS (Nat.le_of_ble_eq_true rfl) (Nat.le_of_ble_eq_true rfl) dX2_wisestGuess_49 (by cases hB; exact ⟨rfl, rfl⟩)
theorem bkX2_wisestGuess_7L {l : Launch} {dC : Nat → ClassId} {dI : Nat → Nat → Nat} {cB cI cJ cZ cS : ClassId} {a b : Nat → Nat} {as : List Value} {r : Int32} {s' : JS} : ∀ (n : Nat) (s : JS) (x2 : Int32) (x3 : Int32) (x4 : Int32), kX2_wisestGuess_7L n s x2 x3 x4 = some (r, s') → BlkI l yX2_wisestGuess wsX2_wisestGuess ({ frames := 2, cells := 0, slots := 0, locals := 44 }) cX2_wisestGuess 5 (some .int) (dC, dI) (tysA cB cI cJ cZ cS) as 7 (wJ cB cI cJ cZ cS a b s) [(0, .ref (a 36)), (1, .ref (b 0)), (2, .int x2), (3, .int x3), (4, .int x4)] [] (fun x u => x = r ∧ u = (wJ cB cI cJ cZ cS a b s')) := by
  intro n
  induction n with
  | zero => intro s x2 x3 x4 hB; exact none_ne hB
  | succ n ih => intro s x2 x3 x4 hB; exact bkX2_wisestGuess_7 ih _ _ _ _ hB
set_option maxHeartbeats 4000000 in
set_option maxRecDepth 100000 in
theorem bkX2_wisestGuess {l : Launch} {dC : Nat → ClassId} {dI : Nat → Nat → Nat} {cB cI cJ cZ cS : ClassId} {a b : Nat → Nat} {as : List Value} {r : Int32} {s' : JS} (s : JS) (hB : kX2_wisestGuess s = some (r, s')) : BlkI l yX2_wisestGuess wsX2_wisestGuess ({ frames := 2, cells := 0, slots := 0, locals := 44 }) cX2_wisestGuess 5 (some .int) (dC, dI) (tysA cB cI cJ cZ cS) as 0 (wJ cB cI cJ cZ cS a b s) [(0, .ref (a 36)), (1, .ref (b 0))] [] (fun x u => x = r ∧ u = (wJ cB cI cJ cZ cS a b s')) := by
  intro p e s0 m below meth c A E H locs ls hP hD hS hl
  obtain ⟨C, hr, hlocks, hA, hK, hN⟩ := id E
  obtain ⟨hx, hb, hml, hown, hts⟩ := id C
  unfold kX2_wisestGuess at hB
  refine lv_iconst (v := 0) hx hb dX2_wisestGuess_0 (by decide) ?_
  refine lv_istore_n (lv' := [(2, .int 0), (0, .ref (a 36)), (1, .ref (b 0))]) hx hb dX2_wisestGuess_1 rfl hl (by decide) rfl (fun ls hl => ?_)
  refine lv_iconst (v := 1) hx hb dX2_wisestGuess_2 (by decide) ?_
  refine lv_istore_n (lv' := [(3, .int 1), (2, .int 0), (0, .ref (a 36)), (1, .ref (b 0))]) hx hb dX2_wisestGuess_3 rfl hl (by decide) rfl (fun ls hl => ?_)
  refine lv_iconst (v := 0) hx hb dX2_wisestGuess_4 (by decide) ?_
  refine lv_istore (lv' := [(4, .int 0), (3, .int 1), (2, .int 0), (0, .ref (a 36)), (1, .ref (b 0))]) hx hb dX2_wisestGuess_5 hl (by decide) rfl (fun ls hl => ?_)
  exact bkX2_wisestGuess_7L fu _ _ _ _ hB p e s0 m below meth c A E H locs ls hP hD hS (lv_sub hl [3, 4, 2, 1, 0] rfl)
theorem ckX2_wisestGuess {l : Launch} {dC : Nat → ClassId} {dI : Nat → Nat → Nat} {cB cI cJ cZ cS : ClassId} {a b : Nat → Nat} {r : Int32} {s' : JS} {s : JS} (hB : kX2_wisestGuess s = some (r, s')) : CI l yX2_wisestGuess wsX2_wisestGuess ({ frames := 2, cells := 0, slots := 0, locals := 44 }) (dC, dI) (tysA cB cI cJ cZ cS) (wJ cB cI cJ cZ cS a b s) [.ref (a 36), .ref (b 0)] (fun x u => x = r ∧ u = (wJ cB cI cJ cZ cS a b s')) :=
  CI_of (cc := cX2_wisestGuess) (maxL := 5) (ret := (some .int)) (by decide) rfl (Nat.le_of_ble_eq_true rfl) (bkX2_wisestGuess _ hB)
theorem LX2_oddsApart_M79 : Cond.methodLink RX2 79 Lib.Math.max.name ∈ wsX2_oddsApart := by decide +kernel
theorem LX2_oddsApart_M87 : Cond.methodLink RX2 87 Lib.Math.min.name ∈ wsX2_oddsApart := by decide +kernel
theorem LX2_oddsApart_MCmax : Cond.code Lib.Math.max.name Lib.Math.max.code 2 (some .int) ∈ wsX2_oddsApart := by decide +kernel
theorem LX2_oddsApart_MCmin : Cond.code Lib.Math.min.name Lib.Math.min.code 2 (some .int) ∈ wsX2_oddsApart := by decide +kernel
theorem LX2_oddsApart_MI : Cond.initialized "java/lang/Math" ∈ wsX2_oddsApart := by decide +kernel
theorem LX2_oddsApart_MSmax : Cond.static Lib.Math.max.name ∈ wsX2_oddsApart := by decide +kernel
theorem LX2_oddsApart_MSmin : Cond.static Lib.Math.min.name ∈ wsX2_oddsApart := by decide +kernel
set_option maxHeartbeats 4000000 in
set_option maxRecDepth 100000 in
theorem bkX2_oddsApart_47 {l : Launch} {dC : Nat → ClassId} {dI : Nat → Nat → Nat} {cB cI cJ cZ cS : ClassId} {a b : Nat → Nat} {as : List Value} {r : Int32} {s' : JS} {k9 : JS → Int32 → Int32 → Int32 → Int32 → Option (Int32 × JS)} (hk9 : ∀ (s : JS) (x2 : Int32) (x3 : Int32) (x4 : Int32) (x5 : Int32), k9 s x2 x3 x4 x5 = some (r, s') → BlkI l yX2_oddsApart wsX2_oddsApart ({ frames := 2, cells := 0, slots := 0, locals := 45 }) cX2_oddsApart 7 (some .int) (dC, dI) (tysA cB cI cJ cZ cS) as 9 (wJ cB cI cJ cZ cS a b s) [(0, .ref (a 36)), (1, .ref (b 0)), (2, .int x2), (3, .int x3), (4, .int x4), (5, .int x5)] [] (fun x u => x = r ∧ u = (wJ cB cI cJ cZ cS a b s'))) (s : JS) (x2 : Int32) (x3 : Int32) (x4 : Int32) (x5 : Int32) (hB : kX2_oddsApart_47 k9 s x2 x3 x4 x5 = some (r, s')) : BlkI l yX2_oddsApart wsX2_oddsApart ({ frames := 2, cells := 0, slots := 0, locals := 45 }) cX2_oddsApart 7 (some .int) (dC, dI) (tysA cB cI cJ cZ cS) as 47 (wJ cB cI cJ cZ cS a b s) [(0, .ref (a 36)), (1, .ref (b 0)), (2, .int x2), (3, .int x3), (4, .int x4), (5, .int x5)] [] (fun x u => x = r ∧ u = (wJ cB cI cJ cZ cS a b s')) := by
  intro p e s0 m below meth c A E H locs ls hP hD hS hl
  obtain ⟨C, hr, hlocks, hA, hK, hN⟩ := id E
  obtain ⟨hx, hb, hml, hown, hts⟩ := id C
  unfold kX2_oddsApart_47 at hB
  refine lv_iinc (v := (x5 + 1)) (lv' := [(5, .int (x5 + 1)), (0, .ref (a 36)), (1, .ref (b 0)), (2, .int x2), (3, .int x3), (4, .int x4)]) hx hb dX2_oddsApart_47 hl (k := 5) rfl (rfl) (by decide) rfl (fun ls hl => ?_)
  refine lv_goto (tgt := 9) hx hb dX2_oddsApart_50 (by decide) ?_
  exact hk9 _ _ _ _ _ hB p e s0 m below meth c A E H locs ls hP hD hS (lv_sub hl [1, 2, 3, 4, 5, 0] rfl)
set_option maxHeartbeats 4000000 in
set_option maxRecDepth 100000 in
theorem bkX2_oddsApart_9 {l : Launch} {dC : Nat → ClassId} {dI : Nat → Nat → Nat} {cB cI cJ cZ cS : ClassId} {a b : Nat → Nat} {as : List Value} {r : Int32} {s' : JS} {k9 : JS → Int32 → Int32 → Int32 → Int32 → Option (Int32 × JS)} (hk9 : ∀ (s : JS) (x2 : Int32) (x3 : Int32) (x4 : Int32) (x5 : Int32), k9 s x2 x3 x4 x5 = some (r, s') → BlkI l yX2_oddsApart wsX2_oddsApart ({ frames := 2, cells := 0, slots := 0, locals := 45 }) cX2_oddsApart 7 (some .int) (dC, dI) (tysA cB cI cJ cZ cS) as 9 (wJ cB cI cJ cZ cS a b s) [(0, .ref (a 36)), (1, .ref (b 0)), (2, .int x2), (3, .int x3), (4, .int x4), (5, .int x5)] [] (fun x u => x = r ∧ u = (wJ cB cI cJ cZ cS a b s'))) (s : JS) (x2 : Int32) (x3 : Int32) (x4 : Int32) (x5 : Int32) (hB : kX2_oddsApart_9 k9 s x2 x3 x4 x5 = some (r, s')) : BlkI l yX2_oddsApart wsX2_oddsApart ({ frames := 2, cells := 0, slots := 0, locals := 45 }) cX2_oddsApart 7 (some .int) (dC, dI) (tysA cB cI cJ cZ cS) as 9 (wJ cB cI cJ cZ cS a b s) [(0, .ref (a 36)), (1, .ref (b 0)), (2, .int x2), (3, .int x3), (4, .int x4), (5, .int x5)] [] (fun x u => x = r ∧ u = (wJ cB cI cJ cZ cS a b s')) := by
  intro p e s0 m below meth c A E H locs ls hP hD hS hl
  obtain ⟨C, hr, hlocks, hA, hK, hN⟩ := id E
  obtain ⟨hx, hb, hml, hown, hts⟩ := id C
  unfold kX2_oddsApart_9 at hB
  refine lv_iload hx hb dX2_oddsApart_9 (lv_at hl 5 rfl) ?_
  refine lv_bipush (v := 6) hx hb dX2_oddsApart_11 (by decide) ?_
  refine lv_icmp_ge (tgt := 53) hx hb dX2_oddsApart_13 (by decide) (fun c1 => ?_) (fun c1 => ?_)
  · have hB := if_p hB c1
    refine lv_iconst (v := 0) hx hb dX2_oddsApart_53 (by decide) ?_
    refine lv_iload hx hb dX2_oddsApart_54 (lv_at hl 4 rfl) ?_
    refine lv_iload_n hx hb dX2_oddsApart_56 rfl (lv_at hl 3 rfl) ?_
    refine lv_isub hx hb dX2_oddsApart_57 ?_
    refine va_mmax hx hb (hml.trans hl.1.symm) hown (hts _ LX2_oddsApart_M79) (hts _ LX2_oddsApart_MSmax) (hts _ LX2_oddsApart_MI) (hts _ LX2_oddsApart_MCmax) (Nat.le_of_ble_eq_true rfl) (Nat.le_of_ble_eq_true rfl) (Nat.zero_le _) (Nat.zero_le _) dX2_oddsApart_58 ?_
    refine q_top (y := (mmax 0 (x4 - x3))) rfl ?_
    exact q_iret C hr hlocks hK hP hD hS (Nat.le_of_ble_eq_true rfl) (Nat.le_of_ble_eq_true rfl) dX2_oddsApart_61 (by cases hB; exact ⟨rfl, rfl⟩)
  · have hB := if_n hB c1
    refine lv_aload_n hx hb dX2_oddsApart_16 rfl (lv_at hl 0 rfl) ?_
    refine lv_aload_n hx hb dX2_oddsApart_17 rfl (lv_at hl 1 rfl) ?_
    refine lv_iload_n hx hb dX2_oddsApart_18 rfl (lv_at hl 2 rfl) ?_
    refine lv_iload hx hb dX2_oddsApart_19 (lv_at hl 5 rfl) ?_
    obtain ⟨q_, s2, hc, hB⟩ := bindI_inv hB
    refine q_goiF (va_runV (As := [.ref (b 0), .int x2, .int x5]) (rest := []) C (ckX2_oddsIfMay hc _) (cwV 3 hts gX2_oddsApart_X2_oddsIfMay rfl rfl rfl (by decide +kernel) ⟨Nat.le_of_ble_eq_true rfl, Nat.le_of_ble_eq_true rfl⟩) (q_preV hK hP (ci := 2) (q0 := 42) rfl rfl rfl (q_preF hN hK hP hD)) rfl rfl hl.1 rfl (lv_room (Nat.le_of_ble_eq_true rfl)) dX2_oddsApart_21 ⟨Nat.le_of_ble_eq_true rfl, Nat.le_of_ble_eq_true rfl⟩) hD hS hA (fun r3 w1 H locs hw hP hD hS => ?_)
    obtain ⟨hq_, hw⟩ := hw; subst hw; subst hq_
    refine lv_istore (lv' := [(6, .int r3), (0, .ref (a 36)), (1, .ref (b 0)), (2, .int x2), (3, .int x3), (4, .int x4), (5, .int x5)]) hx hb dX2_oddsApart_24 hl (by decide) rfl (fun ls hl => ?_)
    refine lv_iload hx hb dX2_oddsApart_26 (lv_at hl 0 rfl) ?_
    refine lv_if_le (tgt := 47) hx hb dX2_oddsApart_28 (by decide) (fun c4 => ?_) (fun c4 => ?_)
    · have hB := if_p hB c4
      exact bkX2_oddsApart_47 (hk9) _ _ _ _ _ hB p e s0 m below meth c A E H locs ls hP hD hS (lv_sub hl [1, 2, 3, 4, 5, 6] rfl)
    · have hB := if_n hB c4
      refine lv_iload_n hx hb dX2_oddsApart_31 rfl (lv_at hl 4 rfl) ?_
      refine lv_iload hx hb dX2_oddsApart_32 (lv_at hl 0 rfl) ?_
      refine va_mmin hx hb (hml.trans hl.1.symm) hown (hts _ LX2_oddsApart_M87) (hts _ LX2_oddsApart_MSmin) (hts _ LX2_oddsApart_MI) (hts _ LX2_oddsApart_MCmin) (Nat.le_of_ble_eq_true rfl) (Nat.le_of_ble_eq_true rfl) (Nat.zero_le _) (Nat.zero_le _) dX2_oddsApart_34 ?_
      refine q_top (y := (mmin x3 r3)) rfl ?_
      refine lv_istore_n (lv' := [(3, .int (mmin x3 r3)), (6, .int r3), (0, .ref (a 36)), (1, .ref (b 0)), (2, .int x2), (4, .int x4), (5, .int x5)]) hx hb dX2_oddsApart_37 rfl hl (by decide) rfl (fun ls hl => ?_)
      refine lv_iload hx hb dX2_oddsApart_38 (lv_at hl 5 rfl) ?_
      refine lv_iload hx hb dX2_oddsApart_40 (lv_at hl 1 rfl) ?_
      refine va_mmax hx hb (hml.trans hl.1.symm) hown (hts _ LX2_oddsApart_M79) (hts _ LX2_oddsApart_MSmax) (hts _ LX2_oddsApart_MI) (hts _ LX2_oddsApart_MCmax) (Nat.le_of_ble_eq_true rfl) (Nat.le_of_ble_eq_true rfl) (Nat.zero_le _) (Nat.zero_le _) dX2_oddsApart_42 ?_
      refine q_top (y := (mmax x4 r3)) rfl ?_
      refine lv_istore (lv' := [(4, .int (mmax x4 r3)), (3, .int (mmin x3 r3)), (6, .int r3), (0, .ref (a 36)), (1, .ref (b 0)), (2, .int x2), (5, .int x5)]) hx hb dX2_oddsApart_45 hl (by decide) rfl (fun ls hl => ?_)
      exact bkX2_oddsApart_47 (hk9) _ _ _ _ _ hB p e s0 m below meth c A E H locs ls hP hD hS (lv_sub hl [3, 4, 5, 1, 0, 6] rfl)
theorem bkX2_oddsApart_9L {l : Launch} {dC : Nat → ClassId} {dI : Nat → Nat → Nat} {cB cI cJ cZ cS : ClassId} {a b : Nat → Nat} {as : List Value} {r : Int32} {s' : JS} : ∀ (n : Nat) (s : JS) (x2 : Int32) (x3 : Int32) (x4 : Int32) (x5 : Int32), kX2_oddsApart_9L n s x2 x3 x4 x5 = some (r, s') → BlkI l yX2_oddsApart wsX2_oddsApart ({ frames := 2, cells := 0, slots := 0, locals := 45 }) cX2_oddsApart 7 (some .int) (dC, dI) (tysA cB cI cJ cZ cS) as 9 (wJ cB cI cJ cZ cS a b s) [(0, .ref (a 36)), (1, .ref (b 0)), (2, .int x2), (3, .int x3), (4, .int x4), (5, .int x5)] [] (fun x u => x = r ∧ u = (wJ cB cI cJ cZ cS a b s')) := by
  intro n
  induction n with
  | zero => intro s x2 x3 x4 x5 hB; exact none_ne hB
  | succ n ih => intro s x2 x3 x4 x5 hB; exact bkX2_oddsApart_9 ih _ _ _ _ _ hB
set_option maxHeartbeats 4000000 in
set_option maxRecDepth 100000 in
theorem bkX2_oddsApart {l : Launch} {dC : Nat → ClassId} {dI : Nat → Nat → Nat} {cB cI cJ cZ cS : ClassId} {a b : Nat → Nat} {as : List Value} {r : Int32} {s' : JS} (s : JS) (x2 : Int32) (hB : kX2_oddsApart s x2 = some (r, s')) : BlkI l yX2_oddsApart wsX2_oddsApart ({ frames := 2, cells := 0, slots := 0, locals := 45 }) cX2_oddsApart 7 (some .int) (dC, dI) (tysA cB cI cJ cZ cS) as 0 (wJ cB cI cJ cZ cS a b s) [(0, .ref (a 36)), (1, .ref (b 0)), (2, .int x2)] [] (fun x u => x = r ∧ u = (wJ cB cI cJ cZ cS a b s')) := by
  intro p e s0 m below meth c A E H locs ls hP hD hS hl
  obtain ⟨C, hr, hlocks, hA, hK, hN⟩ := id E
  obtain ⟨hx, hb, hml, hown, hts⟩ := id C
  unfold kX2_oddsApart at hB
  refine lv_bipush (v := 9) hx hb dX2_oddsApart_0 (by decide) ?_
  refine lv_istore_n (lv' := [(3, .int 9), (0, .ref (a 36)), (1, .ref (b 0)), (2, .int x2)]) hx hb dX2_oddsApart_2 rfl hl (by decide) rfl (fun ls hl => ?_)
  refine lv_iconst (v := 0) hx hb dX2_oddsApart_3 (by decide) ?_
  refine lv_istore (lv' := [(4, .int 0), (3, .int 9), (0, .ref (a 36)), (1, .ref (b 0)), (2, .int x2)]) hx hb dX2_oddsApart_4 hl (by decide) rfl (fun ls hl => ?_)
  refine lv_iconst (v := 0) hx hb dX2_oddsApart_6 (by decide) ?_
  refine lv_istore (lv' := [(5, .int 0), (4, .int 0), (3, .int 9), (0, .ref (a 36)), (1, .ref (b 0)), (2, .int x2)]) hx hb dX2_oddsApart_7 hl (by decide) rfl (fun ls hl => ?_)
  exact bkX2_oddsApart_9L fu _ _ _ _ _ hB p e s0 m below meth c A E H locs ls hP hD hS (lv_sub hl [3, 4, 5, 2, 1, 0] rfl)
theorem ckX2_oddsApart {l : Launch} {dC : Nat → ClassId} {dI : Nat → Nat → Nat} {cB cI cJ cZ cS : ClassId} {a b : Nat → Nat} {r : Int32} {s' : JS} {s : JS} {x2 : Int32} (hB : kX2_oddsApart s x2 = some (r, s')) : CI l yX2_oddsApart wsX2_oddsApart ({ frames := 2, cells := 0, slots := 0, locals := 45 }) (dC, dI) (tysA cB cI cJ cZ cS) (wJ cB cI cJ cZ cS a b s) [.ref (a 36), .ref (b 0), .int x2] (fun x u => x = r ∧ u = (wJ cB cI cJ cZ cS a b s')) :=
  CI_of (cc := cX2_oddsApart) (maxL := 7) (ret := (some .int)) (by decide) rfl (Nat.le_of_ble_eq_true rfl) (bkX2_oddsApart _ _ hB)
set_option maxHeartbeats 4000000 in
set_option maxRecDepth 100000 in
theorem bkX2_fillRow_near_39 {l : Launch} {dC : Nat → ClassId} {dI : Nat → Nat → Nat} {cB cI cJ cZ cS : ClassId} {a b : Nat → Nat} {as : List Value} {r : Int32} {s' : JS} {k10 : JS → Int32 → Int32 → Int32 → Option (Int32 × JS)} {k20 : JS → Int32 → Int32 → Int32 → Int32 → Option (Int32 × JS)} {k39 : JS → Int32 → Int32 → Int32 → Int32 → Int32 → Int32 → Option (Int32 × JS)} (hk10 : ∀ (s : JS) (x4 : Int32) (x5 : Int32) (x6 : Int32), k10 s x4 x5 x6 = some (r, s') → BlkI l yX2_fillRow wsX2_fillRow ({ frames := 2, cells := 0, slots := 0, locals := 45 }) cX2_fillRow 10 (some .int) (dC, dI) (tysA cB cI cJ cZ cS) as 10 (wJ cB cI cJ cZ cS a b s) [(0, .ref (a 36)), (1, .ref (b 0)), (2, .ref (a 37)), (4, .int x4), (5, .int x5), (6, .int x6)] [] (fun x u => x = r ∧ u = (wJ cB cI cJ cZ cS a b s'))) (hk20 : ∀ (s : JS) (x4 : Int32) (x5 : Int32) (x6 : Int32) (x7 : Int32), k20 s x4 x5 x6 x7 = some (r, s') → BlkI l yX2_fillRow wsX2_fillRow ({ frames := 2, cells := 0, slots := 0, locals := 45 }) cX2_fillRow 10 (some .int) (dC, dI) (tysA cB cI cJ cZ cS) as 20 (wJ cB cI cJ cZ cS a b s) [(0, .ref (a 36)), (1, .ref (b 0)), (2, .ref (a 37)), (4, .int x4), (5, .int x5), (6, .int x6), (7, .int x7)] [] (fun x u => x = r ∧ u = (wJ cB cI cJ cZ cS a b s'))) (hk39 : ∀ (s : JS) (x4 : Int32) (x5 : Int32) (x6 : Int32) (x7 : Int32) (x8 : Int32) (x9 : Int32), k39 s x4 x5 x6 x7 x8 x9 = some (r, s') → BlkI l yX2_fillRow wsX2_fillRow ({ frames := 2, cells := 0, slots := 0, locals := 45 }) cX2_fillRow 10 (some .int) (dC, dI) (tysA cB cI cJ cZ cS) as 39 (wJ cB cI cJ cZ cS a b s) [(0, .ref (a 36)), (1, .ref (b 0)), (2, .ref (a 37)), (4, .int x4), (5, .int x5), (6, .int x6), (7, .int x7), (8, .int x8), (9, .int x9)] [] (fun x u => x = r ∧ u = (wJ cB cI cJ cZ cS a b s'))) (s : JS) (x4 : Int32) (x5 : Int32) (x6 : Int32) (x7 : Int32) (x8 : Int32) (x9 : Int32) (hB : kX2_fillRow_near_39 k10 k20 k39 s x4 x5 x6 x7 x8 x9 = some (r, s')) : BlkI l yX2_fillRow wsX2_fillRow ({ frames := 2, cells := 0, slots := 0, locals := 45 }) cX2_fillRow 10 (some .int) (dC, dI) (tysA cB cI cJ cZ cS) as 39 (wJ cB cI cJ cZ cS a b s) [(0, .ref (a 36)), (1, .ref (b 0)), (2, .ref (a 37)), (4, .int x4), (5, .int x5), (6, .int x6), (7, .int x7), (8, .int x8), (9, .int x9)] [] (fun x u => x = r ∧ u = (wJ cB cI cJ cZ cS a b s')) := by
  intro p e s0 m below meth c A E H locs ls hP hD hS hl
  obtain ⟨C, hr, hlocks, hA, hK, hN⟩ := id E
  obtain ⟨hx, hb, hml, hown, hts⟩ := id C
  unfold kX2_fillRow_near_39 at hB
  refine lv_iload hx hb dX2_fillRow_39 (lv_at hl 8 rfl) ?_
  refine lv_iload hx hb dX2_fillRow_41 (lv_at hl 4 rfl) ?_
  refine lv_icmp_ge (tgt := 69) hx hb dX2_fillRow_43 (by decide) (fun c1 => ?_) (fun c1 => ?_)
  · have hB := if_p hB c1
    refine lv_iinc (v := (x7 + (-1))) (lv' := [(7, .int (x7 + (-1))), (0, .ref (a 36)), (1, .ref (b 0)), (2, .ref (a 37)), (4, .int x4), (5, .int x5), (6, .int x6), (8, .int x8), (9, .int x9)]) hx hb dX2_fillRow_69 hl (k := 6) rfl (rfl) (by decide) rfl (fun ls hl => ?_)
    refine lv_goto (tgt := 20) hx hb dX2_fillRow_72 (by decide) ?_
    exact hk20 _ _ _ _ _ hB p e s0 m below meth c A E H locs ls hP hD hS (lv_sub hl [1, 2, 3, 4, 5, 6, 0] rfl)
  · have hB := if_n hB c1
    refine lv_aload_n hx hb dX2_fillRow_46 rfl (lv_at hl 2 rfl) ?_
    refine lv_iload hx hb dX2_fillRow_47 (lv_at hl 6 rfl) ?_
    refine lv_iload hx hb dX2_fillRow_49 (lv_at hl 4 rfl) ?_
    refine lv_imul hx hb dX2_fillRow_51 ?_
    refine lv_iload hx hb dX2_fillRow_52 (lv_at hl 8 rfl) ?_
    refine lv_iadd hx hb dX2_fillRow_54 ?_
    refine lv_aload_n hx hb dX2_fillRow_55 rfl (lv_at hl 2 rfl) ?_
    refine lv_iload hx hb dX2_fillRow_56 (lv_at hl 8 rfl) ?_
    obtain ⟨g2, hB⟩ := guard_inv hB
    refine q_iald (x := ((s.k.f 37) (Int32.toNatClampNeg x9))) C hK hP 43 1 rfl rfl (vpb_in g2) dX2_fillRow_58 rfl ?_
    refine lv_iload hx hb dX2_fillRow_59 (lv_at hl 7 rfl) ?_
    refine lv_imul hx hb dX2_fillRow_61 ?_
    obtain ⟨g3, hB⟩ := guard_inv hB
    obtain ⟨s4, hs5, hB⟩ := letS_inv hB
    refine q_iast (f2 := (upd (s.k.f 37) (Int32.toNatClampNeg ((x7 * x5) + x9)) (((s.k.f 37) (Int32.toNatClampNeg x9)) * x8))) (w2 := (wJ cB cI cJ cZ cS a b s4)) C hK hP hD hS 43 1 rfl rfl (vpb_in g3) dX2_fillRow_62 rfl (by subst hs5; rfl) (fun H locs hP hD hS => ?_)
    refine lv_iinc (v := (x9 + 1)) (lv' := [(9, .int (x9 + 1)), (0, .ref (a 36)), (1, .ref (b 0)), (2, .ref (a 37)), (4, .int x4), (5, .int x5), (6, .int x6), (7, .int x7), (8, .int x8)]) hx hb dX2_fillRow_63 hl (k := 8) rfl (rfl) (by decide) rfl (fun ls hl => ?_)
    refine lv_goto (tgt := 39) hx hb dX2_fillRow_66 (by decide) ?_
    exact hk39 _ _ _ _ _ _ _ hB p e s0 m below meth c A E H locs ls hP hD hS (lv_sub hl [1, 2, 3, 4, 5, 6, 7, 8, 0] rfl)
theorem bkX2_fillRow_near_39L {l : Launch} {dC : Nat → ClassId} {dI : Nat → Nat → Nat} {cB cI cJ cZ cS : ClassId} {a b : Nat → Nat} {as : List Value} {r : Int32} {s' : JS} {k10 : JS → Int32 → Int32 → Int32 → Option (Int32 × JS)} {k20 : JS → Int32 → Int32 → Int32 → Int32 → Option (Int32 × JS)} (hk10 : ∀ (s : JS) (x4 : Int32) (x5 : Int32) (x6 : Int32), k10 s x4 x5 x6 = some (r, s') → BlkI l yX2_fillRow wsX2_fillRow ({ frames := 2, cells := 0, slots := 0, locals := 45 }) cX2_fillRow 10 (some .int) (dC, dI) (tysA cB cI cJ cZ cS) as 10 (wJ cB cI cJ cZ cS a b s) [(0, .ref (a 36)), (1, .ref (b 0)), (2, .ref (a 37)), (4, .int x4), (5, .int x5), (6, .int x6)] [] (fun x u => x = r ∧ u = (wJ cB cI cJ cZ cS a b s'))) (hk20 : ∀ (s : JS) (x4 : Int32) (x5 : Int32) (x6 : Int32) (x7 : Int32), k20 s x4 x5 x6 x7 = some (r, s') → BlkI l yX2_fillRow wsX2_fillRow ({ frames := 2, cells := 0, slots := 0, locals := 45 }) cX2_fillRow 10 (some .int) (dC, dI) (tysA cB cI cJ cZ cS) as 20 (wJ cB cI cJ cZ cS a b s) [(0, .ref (a 36)), (1, .ref (b 0)), (2, .ref (a 37)), (4, .int x4), (5, .int x5), (6, .int x6), (7, .int x7)] [] (fun x u => x = r ∧ u = (wJ cB cI cJ cZ cS a b s'))) : ∀ (n : Nat) (s : JS) (x4 : Int32) (x5 : Int32) (x6 : Int32) (x7 : Int32) (x8 : Int32) (x9 : Int32), kX2_fillRow_near_39L k10 k20 n s x4 x5 x6 x7 x8 x9 = some (r, s') → BlkI l yX2_fillRow wsX2_fillRow ({ frames := 2, cells := 0, slots := 0, locals := 45 }) cX2_fillRow 10 (some .int) (dC, dI) (tysA cB cI cJ cZ cS) as 39 (wJ cB cI cJ cZ cS a b s) [(0, .ref (a 36)), (1, .ref (b 0)), (2, .ref (a 37)), (4, .int x4), (5, .int x5), (6, .int x6), (7, .int x7), (8, .int x8), (9, .int x9)] [] (fun x u => x = r ∧ u = (wJ cB cI cJ cZ cS a b s')) := by
  intro n
  induction n with
  | zero => intro s x4 x5 x6 x7 x8 x9 hB; exact none_ne hB
  | succ n ih => intro s x4 x5 x6 x7 x8 x9 hB; exact bkX2_fillRow_near_39 hk10 hk20 ih _ _ _ _ _ _ _ hB
set_option maxHeartbeats 4000000 in
set_option maxRecDepth 100000 in
theorem bkX2_fillRow_near_20 {l : Launch} {dC : Nat → ClassId} {dI : Nat → Nat → Nat} {cB cI cJ cZ cS : ClassId} {a b : Nat → Nat} {as : List Value} {r : Int32} {s' : JS} {k10 : JS → Int32 → Int32 → Int32 → Option (Int32 × JS)} {k20 : JS → Int32 → Int32 → Int32 → Int32 → Option (Int32 × JS)} (hk10 : ∀ (s : JS) (x4 : Int32) (x5 : Int32) (x6 : Int32), k10 s x4 x5 x6 = some (r, s') → BlkI l yX2_fillRow wsX2_fillRow ({ frames := 2, cells := 0, slots := 0, locals := 45 }) cX2_fillRow 10 (some .int) (dC, dI) (tysA cB cI cJ cZ cS) as 10 (wJ cB cI cJ cZ cS a b s) [(0, .ref (a 36)), (1, .ref (b 0)), (2, .ref (a 37)), (4, .int x4), (5, .int x5), (6, .int x6)] [] (fun x u => x = r ∧ u = (wJ cB cI cJ cZ cS a b s'))) (hk20 : ∀ (s : JS) (x4 : Int32) (x5 : Int32) (x6 : Int32) (x7 : Int32), k20 s x4 x5 x6 x7 = some (r, s') → BlkI l yX2_fillRow wsX2_fillRow ({ frames := 2, cells := 0, slots := 0, locals := 45 }) cX2_fillRow 10 (some .int) (dC, dI) (tysA cB cI cJ cZ cS) as 20 (wJ cB cI cJ cZ cS a b s) [(0, .ref (a 36)), (1, .ref (b 0)), (2, .ref (a 37)), (4, .int x4), (5, .int x5), (6, .int x6), (7, .int x7)] [] (fun x u => x = r ∧ u = (wJ cB cI cJ cZ cS a b s'))) (s : JS) (x4 : Int32) (x5 : Int32) (x6 : Int32) (x7 : Int32) (hB : kX2_fillRow_near_20 k10 k20 s x4 x5 x6 x7 = some (r, s')) : BlkI l yX2_fillRow wsX2_fillRow ({ frames := 2, cells := 0, slots := 0, locals := 45 }) cX2_fillRow 10 (some .int) (dC, dI) (tysA cB cI cJ cZ cS) as 20 (wJ cB cI cJ cZ cS a b s) [(0, .ref (a 36)), (1, .ref (b 0)), (2, .ref (a 37)), (4, .int x4), (5, .int x5), (6, .int x6), (7, .int x7)] [] (fun x u => x = r ∧ u = (wJ cB cI cJ cZ cS a b s')) := by
  intro p e s0 m below meth c A E H locs ls hP hD hS hl
  obtain ⟨C, hr, hlocks, hA, hK, hN⟩ := id E
  obtain ⟨hx, hb, hml, hown, hts⟩ := id C
  unfold kX2_fillRow_near_20 at hB
  refine lv_iload hx hb dX2_fillRow_20 (lv_at hl 6 rfl) ?_
  refine lv_if_lt (tgt := 75) hx hb dX2_fillRow_22 (by decide) (fun c1 => ?_) (fun c1 => ?_)
  · have hB := if_p hB c1
    refine lv_iload hx hb dX2_fillRow_75 (lv_at hl 4 rfl) ?_
    refine lv_bipush (v := 6) hx hb dX2_fillRow_77 (by decide) ?_
    refine lv_imul hx hb dX2_fillRow_79 ?_
    refine lv_istore (lv' := [(5, .int (x5 * 6)), (0, .ref (a 36)), (1, .ref (b 0)), (2, .ref (a 37)), (4, .int x4), (6, .int x6), (7, .int x7)]) hx hb dX2_fillRow_80 hl (by decide) rfl (fun ls hl => ?_)
    refine lv_iinc (v := (x6 + 1)) (lv' := [(6, .int (x6 + 1)), (5, .int (x5 * 6)), (0, .ref (a 36)), (1, .ref (b 0)), (2, .ref (a 37)), (4, .int x4), (7, .int x7)]) hx hb dX2_fillRow_82 hl (k := 5) rfl (rfl) (by decide) rfl (fun ls hl => ?_)
    refine lv_goto (tgt := 10) hx hb dX2_fillRow_85 (by decide) ?_
    exact hk10 _ _ _ _ hB p e s0 m below meth c A E H locs ls hP hD hS (lv_sub hl [2, 3, 4, 5, 1, 0] rfl)
  · have hB := if_n hB c1
    refine lv_aload_n hx hb dX2_fillRow_25 rfl (lv_at hl 0 rfl) ?_
    refine lv_aload_n hx hb dX2_fillRow_26 rfl (lv_at hl 1 rfl) ?_
    refine lv_iload hx hb dX2_fillRow_27 (lv_at hl 5 rfl) ?_
    refine lv_iload hx hb dX2_fillRow_29 (lv_at hl 6 rfl) ?_
    obtain ⟨q_, s2, hc, hB⟩ := bindI_inv hB
    refine q_goiF (va_runV (As := [.ref (b 0), .int x6, .int x7]) (rest := []) C (ckX2_oddsIfMay hc _) (cwV 3 hts gX2_fillRow_X2_oddsIfMay rfl rfl rfl (by decide +kernel) ⟨Nat.le_of_ble_eq_true rfl, Nat.le_of_ble_eq_true rfl⟩) (q_preV hK hP (ci := 2) (q0 := 42) rfl rfl rfl (q_preF hN hK hP hD)) rfl rfl hl.1 rfl (lv_room (Nat.le_of_ble_eq_true rfl)) dX2_fillRow_31 ⟨Nat.le_of_ble_eq_true rfl, Nat.le_of_ble_eq_true rfl⟩) hD hS hA (fun r3 w1 H locs hw hP hD hS => ?_)
    obtain ⟨hq_, hw⟩ := hw; subst hw; subst hq_
    refine lv_istore (lv' := [(8, .int r3), (0, .ref (a 36)), (1, .ref (b 0)), (2, .ref (a 37)), (4, .int x4), (5, .int x5), (6, .int x6), (7, .int x7)]) hx hb dX2_fillRow_34 hl (by decide) rfl (fun ls hl => ?_)
    refine lv_iconst (v := 0) hx hb dX2_fillRow_36 (by decide) ?_
    refine lv_istore (lv' := [(9, .int 0), (8, .int r3), (0, .ref (a 36)), (1, .ref (b 0)), (2, .ref (a 37)), (4, .int x4), (5, .int x5), (6, .int x6), (7, .int x7)]) hx hb dX2_fillRow_37 hl (by decide) rfl (fun ls hl => ?_)
    exact bkX2_fillRow_near_39L (hk10) (hk20) fu _ _ _ _ _ _ _ hB p e s0 m below meth c A E H locs ls hP hD hS (lv_sub hl [2, 3, 4, 5, 6, 7, 8, 1, 0] rfl)
theorem bkX2_fillRow_near_20L {l : Launch} {dC : Nat → ClassId} {dI : Nat → Nat → Nat} {cB cI cJ cZ cS : ClassId} {a b : Nat → Nat} {as : List Value} {r : Int32} {s' : JS} {k10 : JS → Int32 → Int32 → Int32 → Option (Int32 × JS)} (hk10 : ∀ (s : JS) (x4 : Int32) (x5 : Int32) (x6 : Int32), k10 s x4 x5 x6 = some (r, s') → BlkI l yX2_fillRow wsX2_fillRow ({ frames := 2, cells := 0, slots := 0, locals := 45 }) cX2_fillRow 10 (some .int) (dC, dI) (tysA cB cI cJ cZ cS) as 10 (wJ cB cI cJ cZ cS a b s) [(0, .ref (a 36)), (1, .ref (b 0)), (2, .ref (a 37)), (4, .int x4), (5, .int x5), (6, .int x6)] [] (fun x u => x = r ∧ u = (wJ cB cI cJ cZ cS a b s'))) : ∀ (n : Nat) (s : JS) (x4 : Int32) (x5 : Int32) (x6 : Int32) (x7 : Int32), kX2_fillRow_near_20L k10 n s x4 x5 x6 x7 = some (r, s') → BlkI l yX2_fillRow wsX2_fillRow ({ frames := 2, cells := 0, slots := 0, locals := 45 }) cX2_fillRow 10 (some .int) (dC, dI) (tysA cB cI cJ cZ cS) as 20 (wJ cB cI cJ cZ cS a b s) [(0, .ref (a 36)), (1, .ref (b 0)), (2, .ref (a 37)), (4, .int x4), (5, .int x5), (6, .int x6), (7, .int x7)] [] (fun x u => x = r ∧ u = (wJ cB cI cJ cZ cS a b s')) := by
  intro n
  induction n with
  | zero => intro s x4 x5 x6 x7 hB; exact none_ne hB
  | succ n ih => intro s x4 x5 x6 x7 hB; exact bkX2_fillRow_near_20 hk10 ih _ _ _ _ _ hB
set_option maxHeartbeats 4000000 in
set_option maxRecDepth 100000 in
theorem bkX2_fillRow_near_10 {l : Launch} {dC : Nat → ClassId} {dI : Nat → Nat → Nat} {cB cI cJ cZ cS : ClassId} {a b : Nat → Nat} {as : List Value} {r : Int32} {s' : JS} {k10 : JS → Int32 → Int32 → Int32 → Option (Int32 × JS)} (hk10 : ∀ (s : JS) (x4 : Int32) (x5 : Int32) (x6 : Int32), k10 s x4 x5 x6 = some (r, s') → BlkI l yX2_fillRow wsX2_fillRow ({ frames := 2, cells := 0, slots := 0, locals := 45 }) cX2_fillRow 10 (some .int) (dC, dI) (tysA cB cI cJ cZ cS) as 10 (wJ cB cI cJ cZ cS a b s) [(0, .ref (a 36)), (1, .ref (b 0)), (2, .ref (a 37)), (4, .int x4), (5, .int x5), (6, .int x6)] [] (fun x u => x = r ∧ u = (wJ cB cI cJ cZ cS a b s'))) (s : JS) (x4 : Int32) (x5 : Int32) (x6 : Int32) (hB : kX2_fillRow_near_10 k10 s x4 x5 x6 = some (r, s')) : BlkI l yX2_fillRow wsX2_fillRow ({ frames := 2, cells := 0, slots := 0, locals := 45 }) cX2_fillRow 10 (some .int) (dC, dI) (tysA cB cI cJ cZ cS) as 10 (wJ cB cI cJ cZ cS a b s) [(0, .ref (a 36)), (1, .ref (b 0)), (2, .ref (a 37)), (4, .int x4), (5, .int x5), (6, .int x6)] [] (fun x u => x = r ∧ u = (wJ cB cI cJ cZ cS a b s')) := by
  intro p e s0 m below meth c A E H locs ls hP hD hS hl
  obtain ⟨C, hr, hlocks, hA, hK, hN⟩ := id E
  obtain ⟨hx, hb, hml, hown, hts⟩ := id C
  unfold kX2_fillRow_near_10 at hB
  refine lv_iload hx hb dX2_fillRow_10 (lv_at hl 5 rfl) ?_
  refine lv_iload hx hb dX2_fillRow_12 (lv_at hl 3 rfl) ?_
  refine lv_icmp_ge (tgt := 88) hx hb dX2_fillRow_14 (by decide) (fun c1 => ?_) (fun c1 => ?_)
  · have hB := if_p hB c1
    refine lv_iload hx hb dX2_fillRow_88 (lv_at hl 4 rfl) ?_
    exact q_iret C hr hlocks hK hP hD hS (Nat.le_of_ble_eq_true rfl) (Nat.le_of_ble_eq_true rfl) dX2_fillRow_90 (by cases hB; exact ⟨rfl, rfl⟩)
  · have hB := if_n hB c1
    refine lv_iconst (v := 5) hx hb dX2_fillRow_17 (by decide) ?_
    refine lv_istore (lv' := [(7, .int 5), (0, .ref (a 36)), (1, .ref (b 0)), (2, .ref (a 37)), (4, .int x4), (5, .int x5), (6, .int x6)]) hx hb dX2_fillRow_18 hl (by decide) rfl (fun ls hl => ?_)
    exact bkX2_fillRow_near_20L (hk10) fu _ _ _ _ _ hB p e s0 m below meth c A E H locs ls hP hD hS (lv_sub hl [1, 2, 3, 4, 5, 6, 0] rfl)
theorem bkX2_fillRow_near_10L {l : Launch} {dC : Nat → ClassId} {dI : Nat → Nat → Nat} {cB cI cJ cZ cS : ClassId} {a b : Nat → Nat} {as : List Value} {r : Int32} {s' : JS} : ∀ (n : Nat) (s : JS) (x4 : Int32) (x5 : Int32) (x6 : Int32), kX2_fillRow_near_10L n s x4 x5 x6 = some (r, s') → BlkI l yX2_fillRow wsX2_fillRow ({ frames := 2, cells := 0, slots := 0, locals := 45 }) cX2_fillRow 10 (some .int) (dC, dI) (tysA cB cI cJ cZ cS) as 10 (wJ cB cI cJ cZ cS a b s) [(0, .ref (a 36)), (1, .ref (b 0)), (2, .ref (a 37)), (4, .int x4), (5, .int x5), (6, .int x6)] [] (fun x u => x = r ∧ u = (wJ cB cI cJ cZ cS a b s')) := by
  intro n
  induction n with
  | zero => intro s x4 x5 x6 hB; exact none_ne hB
  | succ n ih => intro s x4 x5 x6 hB; exact bkX2_fillRow_near_10 ih _ _ _ _ hB
set_option maxHeartbeats 4000000 in
set_option maxRecDepth 100000 in
theorem bkX2_fillRow_near {l : Launch} {dC : Nat → ClassId} {dI : Nat → Nat → Nat} {cB cI cJ cZ cS : ClassId} {a b : Nat → Nat} {as : List Value} {r : Int32} {s' : JS} (s : JS) (x3 : Int32) (x4 : Int32) (hB : kX2_fillRow_near s x3 x4 = some (r, s')) : BlkI l yX2_fillRow wsX2_fillRow ({ frames := 2, cells := 0, slots := 0, locals := 45 }) cX2_fillRow 10 (some .int) (dC, dI) (tysA cB cI cJ cZ cS) as 0 (wJ cB cI cJ cZ cS a b s) [(0, .ref (a 36)), (1, .ref (b 0)), (2, .ref (a 37)), (3, .int x3), (4, .int x4)] [] (fun x u => x = r ∧ u = (wJ cB cI cJ cZ cS a b s')) := by
  intro p e s0 m below meth c A E H locs ls hP hD hS hl
  obtain ⟨C, hr, hlocks, hA, hK, hN⟩ := id E
  obtain ⟨hx, hb, hml, hown, hts⟩ := id C
  unfold kX2_fillRow_near at hB
  refine lv_iconst (v := 1) hx hb dX2_fillRow_0 (by decide) ?_
  refine lv_istore (lv' := [(5, .int 1), (0, .ref (a 36)), (1, .ref (b 0)), (2, .ref (a 37)), (3, .int x3), (4, .int x4)]) hx hb dX2_fillRow_1 hl (by decide) rfl (fun ls hl => ?_)
  refine lv_aload_n hx hb dX2_fillRow_3 rfl (lv_at hl 3 rfl) ?_
  refine lv_iconst (v := 0) hx hb dX2_fillRow_4 (by decide) ?_
  refine lv_iconst (v := 1) hx hb dX2_fillRow_5 (by decide) ?_
  obtain ⟨s1, hs2, hB⟩ := letS_inv hB
  refine q_iast (f2 := (upd (s.k.f 37) 0 1)) (w2 := (wJ cB cI cJ cZ cS a b s1)) C hK hP hD hS 43 1 rfl rfl (vp_lit (by decide +kernel)) dX2_fillRow_6 rfl (by subst hs2; rfl) (fun H locs hP hD hS => ?_)
  refine lv_iload_n hx hb dX2_fillRow_7 rfl (lv_at hl 4 rfl) ?_
  refine lv_istore (lv' := [(6, .int x3), (5, .int 1), (0, .ref (a 36)), (1, .ref (b 0)), (2, .ref (a 37)), (3, .int x3), (4, .int x4)]) hx hb dX2_fillRow_8 hl (by decide) rfl (fun ls hl => ?_)
  exact bkX2_fillRow_near_10L fu _ _ _ _ hB p e s0 m below meth c A E H locs ls hP hD hS (lv_sub hl [2, 3, 4, 6, 1, 0] rfl)
theorem ckX2_fillRow_near {l : Launch} {dC : Nat → ClassId} {dI : Nat → Nat → Nat} {cB cI cJ cZ cS : ClassId} {a b : Nat → Nat} {r : Int32} {s' : JS} {s : JS} {x3 : Int32} {x4 : Int32} (hB : kX2_fillRow_near s x3 x4 = some (r, s')) : CI l yX2_fillRow wsX2_fillRow ({ frames := 2, cells := 0, slots := 0, locals := 45 }) (dC, dI) (tysA cB cI cJ cZ cS) (wJ cB cI cJ cZ cS a b s) [.ref (a 36), .ref (b 0), .ref (a 37), .int x3, .int x4] (fun x u => x = r ∧ u = (wJ cB cI cJ cZ cS a b s')) :=
  CI_of (cc := cX2_fillRow) (maxL := 10) (ret := (some .int)) (by decide) rfl (Nat.le_of_ble_eq_true rfl) (bkX2_fillRow_near _ _ _ hB)
set_option maxHeartbeats 4000000 in
set_option maxRecDepth 100000 in
theorem bkX2_fillRow_far_39 {l : Launch} {dC : Nat → ClassId} {dI : Nat → Nat → Nat} {cB cI cJ cZ cS : ClassId} {a b : Nat → Nat} {as : List Value} {r : Int32} {s' : JS} {k10 : JS → Int32 → Int32 → Int32 → Option (Int32 × JS)} {k20 : JS → Int32 → Int32 → Int32 → Int32 → Option (Int32 × JS)} {k39 : JS → Int32 → Int32 → Int32 → Int32 → Int32 → Int32 → Option (Int32 × JS)} (hk10 : ∀ (s : JS) (x4 : Int32) (x5 : Int32) (x6 : Int32), k10 s x4 x5 x6 = some (r, s') → BlkI l yX2_fillRow wsX2_fillRow ({ frames := 2, cells := 0, slots := 0, locals := 45 }) cX2_fillRow 10 (some .int) (dC, dI) (tysA cB cI cJ cZ cS) as 10 (wJ cB cI cJ cZ cS a b s) [(0, .ref (a 36)), (1, .ref (b 0)), (2, .ref (a 38)), (4, .int x4), (5, .int x5), (6, .int x6)] [] (fun x u => x = r ∧ u = (wJ cB cI cJ cZ cS a b s'))) (hk20 : ∀ (s : JS) (x4 : Int32) (x5 : Int32) (x6 : Int32) (x7 : Int32), k20 s x4 x5 x6 x7 = some (r, s') → BlkI l yX2_fillRow wsX2_fillRow ({ frames := 2, cells := 0, slots := 0, locals := 45 }) cX2_fillRow 10 (some .int) (dC, dI) (tysA cB cI cJ cZ cS) as 20 (wJ cB cI cJ cZ cS a b s) [(0, .ref (a 36)), (1, .ref (b 0)), (2, .ref (a 38)), (4, .int x4), (5, .int x5), (6, .int x6), (7, .int x7)] [] (fun x u => x = r ∧ u = (wJ cB cI cJ cZ cS a b s'))) (hk39 : ∀ (s : JS) (x4 : Int32) (x5 : Int32) (x6 : Int32) (x7 : Int32) (x8 : Int32) (x9 : Int32), k39 s x4 x5 x6 x7 x8 x9 = some (r, s') → BlkI l yX2_fillRow wsX2_fillRow ({ frames := 2, cells := 0, slots := 0, locals := 45 }) cX2_fillRow 10 (some .int) (dC, dI) (tysA cB cI cJ cZ cS) as 39 (wJ cB cI cJ cZ cS a b s) [(0, .ref (a 36)), (1, .ref (b 0)), (2, .ref (a 38)), (4, .int x4), (5, .int x5), (6, .int x6), (7, .int x7), (8, .int x8), (9, .int x9)] [] (fun x u => x = r ∧ u = (wJ cB cI cJ cZ cS a b s'))) (s : JS) (x4 : Int32) (x5 : Int32) (x6 : Int32) (x7 : Int32) (x8 : Int32) (x9 : Int32) (hB : kX2_fillRow_far_39 k10 k20 k39 s x4 x5 x6 x7 x8 x9 = some (r, s')) : BlkI l yX2_fillRow wsX2_fillRow ({ frames := 2, cells := 0, slots := 0, locals := 45 }) cX2_fillRow 10 (some .int) (dC, dI) (tysA cB cI cJ cZ cS) as 39 (wJ cB cI cJ cZ cS a b s) [(0, .ref (a 36)), (1, .ref (b 0)), (2, .ref (a 38)), (4, .int x4), (5, .int x5), (6, .int x6), (7, .int x7), (8, .int x8), (9, .int x9)] [] (fun x u => x = r ∧ u = (wJ cB cI cJ cZ cS a b s')) := by
  intro p e s0 m below meth c A E H locs ls hP hD hS hl
  obtain ⟨C, hr, hlocks, hA, hK, hN⟩ := id E
  obtain ⟨hx, hb, hml, hown, hts⟩ := id C
  unfold kX2_fillRow_far_39 at hB
  refine lv_iload hx hb dX2_fillRow_39 (lv_at hl 8 rfl) ?_
  refine lv_iload hx hb dX2_fillRow_41 (lv_at hl 4 rfl) ?_
  refine lv_icmp_ge (tgt := 69) hx hb dX2_fillRow_43 (by decide) (fun c1 => ?_) (fun c1 => ?_)
  · have hB := if_p hB c1
    refine lv_iinc (v := (x7 + (-1))) (lv' := [(7, .int (x7 + (-1))), (0, .ref (a 36)), (1, .ref (b 0)), (2, .ref (a 38)), (4, .int x4), (5, .int x5), (6, .int x6), (8, .int x8), (9, .int x9)]) hx hb dX2_fillRow_69 hl (k := 6) rfl (rfl) (by decide) rfl (fun ls hl => ?_)
    refine lv_goto (tgt := 20) hx hb dX2_fillRow_72 (by decide) ?_
    exact hk20 _ _ _ _ _ hB p e s0 m below meth c A E H locs ls hP hD hS (lv_sub hl [1, 2, 3, 4, 5, 6, 0] rfl)
  · have hB := if_n hB c1
    refine lv_aload_n hx hb dX2_fillRow_46 rfl (lv_at hl 2 rfl) ?_
    refine lv_iload hx hb dX2_fillRow_47 (lv_at hl 6 rfl) ?_
    refine lv_iload hx hb dX2_fillRow_49 (lv_at hl 4 rfl) ?_
    refine lv_imul hx hb dX2_fillRow_51 ?_
    refine lv_iload hx hb dX2_fillRow_52 (lv_at hl 8 rfl) ?_
    refine lv_iadd hx hb dX2_fillRow_54 ?_
    refine lv_aload_n hx hb dX2_fillRow_55 rfl (lv_at hl 2 rfl) ?_
    refine lv_iload hx hb dX2_fillRow_56 (lv_at hl 8 rfl) ?_
    obtain ⟨g2, hB⟩ := guard_inv hB
    refine q_iald (x := ((s.k.f 38) (Int32.toNatClampNeg x9))) C hK hP 44 1 rfl rfl (vpb_in g2) dX2_fillRow_58 rfl ?_
    refine lv_iload hx hb dX2_fillRow_59 (lv_at hl 7 rfl) ?_
    refine lv_imul hx hb dX2_fillRow_61 ?_
    obtain ⟨g3, hB⟩ := guard_inv hB
    obtain ⟨s4, hs5, hB⟩ := letS_inv hB
    refine q_iast (f2 := (upd (s.k.f 38) (Int32.toNatClampNeg ((x7 * x5) + x9)) (((s.k.f 38) (Int32.toNatClampNeg x9)) * x8))) (w2 := (wJ cB cI cJ cZ cS a b s4)) C hK hP hD hS 44 1 rfl rfl (vpb_in g3) dX2_fillRow_62 rfl (by subst hs5; rfl) (fun H locs hP hD hS => ?_)
    refine lv_iinc (v := (x9 + 1)) (lv' := [(9, .int (x9 + 1)), (0, .ref (a 36)), (1, .ref (b 0)), (2, .ref (a 38)), (4, .int x4), (5, .int x5), (6, .int x6), (7, .int x7), (8, .int x8)]) hx hb dX2_fillRow_63 hl (k := 8) rfl (rfl) (by decide) rfl (fun ls hl => ?_)
    refine lv_goto (tgt := 39) hx hb dX2_fillRow_66 (by decide) ?_
    exact hk39 _ _ _ _ _ _ _ hB p e s0 m below meth c A E H locs ls hP hD hS (lv_sub hl [1, 2, 3, 4, 5, 6, 7, 8, 0] rfl)
theorem bkX2_fillRow_far_39L {l : Launch} {dC : Nat → ClassId} {dI : Nat → Nat → Nat} {cB cI cJ cZ cS : ClassId} {a b : Nat → Nat} {as : List Value} {r : Int32} {s' : JS} {k10 : JS → Int32 → Int32 → Int32 → Option (Int32 × JS)} {k20 : JS → Int32 → Int32 → Int32 → Int32 → Option (Int32 × JS)} (hk10 : ∀ (s : JS) (x4 : Int32) (x5 : Int32) (x6 : Int32), k10 s x4 x5 x6 = some (r, s') → BlkI l yX2_fillRow wsX2_fillRow ({ frames := 2, cells := 0, slots := 0, locals := 45 }) cX2_fillRow 10 (some .int) (dC, dI) (tysA cB cI cJ cZ cS) as 10 (wJ cB cI cJ cZ cS a b s) [(0, .ref (a 36)), (1, .ref (b 0)), (2, .ref (a 38)), (4, .int x4), (5, .int x5), (6, .int x6)] [] (fun x u => x = r ∧ u = (wJ cB cI cJ cZ cS a b s'))) (hk20 : ∀ (s : JS) (x4 : Int32) (x5 : Int32) (x6 : Int32) (x7 : Int32), k20 s x4 x5 x6 x7 = some (r, s') → BlkI l yX2_fillRow wsX2_fillRow ({ frames := 2, cells := 0, slots := 0, locals := 45 }) cX2_fillRow 10 (some .int) (dC, dI) (tysA cB cI cJ cZ cS) as 20 (wJ cB cI cJ cZ cS a b s) [(0, .ref (a 36)), (1, .ref (b 0)), (2, .ref (a 38)), (4, .int x4), (5, .int x5), (6, .int x6), (7, .int x7)] [] (fun x u => x = r ∧ u = (wJ cB cI cJ cZ cS a b s'))) : ∀ (n : Nat) (s : JS) (x4 : Int32) (x5 : Int32) (x6 : Int32) (x7 : Int32) (x8 : Int32) (x9 : Int32), kX2_fillRow_far_39L k10 k20 n s x4 x5 x6 x7 x8 x9 = some (r, s') → BlkI l yX2_fillRow wsX2_fillRow ({ frames := 2, cells := 0, slots := 0, locals := 45 }) cX2_fillRow 10 (some .int) (dC, dI) (tysA cB cI cJ cZ cS) as 39 (wJ cB cI cJ cZ cS a b s) [(0, .ref (a 36)), (1, .ref (b 0)), (2, .ref (a 38)), (4, .int x4), (5, .int x5), (6, .int x6), (7, .int x7), (8, .int x8), (9, .int x9)] [] (fun x u => x = r ∧ u = (wJ cB cI cJ cZ cS a b s')) := by
  intro n
  induction n with
  | zero => intro s x4 x5 x6 x7 x8 x9 hB; exact none_ne hB
  | succ n ih => intro s x4 x5 x6 x7 x8 x9 hB; exact bkX2_fillRow_far_39 hk10 hk20 ih _ _ _ _ _ _ _ hB
set_option maxHeartbeats 4000000 in
set_option maxRecDepth 100000 in
theorem bkX2_fillRow_far_20 {l : Launch} {dC : Nat → ClassId} {dI : Nat → Nat → Nat} {cB cI cJ cZ cS : ClassId} {a b : Nat → Nat} {as : List Value} {r : Int32} {s' : JS} {k10 : JS → Int32 → Int32 → Int32 → Option (Int32 × JS)} {k20 : JS → Int32 → Int32 → Int32 → Int32 → Option (Int32 × JS)} (hk10 : ∀ (s : JS) (x4 : Int32) (x5 : Int32) (x6 : Int32), k10 s x4 x5 x6 = some (r, s') → BlkI l yX2_fillRow wsX2_fillRow ({ frames := 2, cells := 0, slots := 0, locals := 45 }) cX2_fillRow 10 (some .int) (dC, dI) (tysA cB cI cJ cZ cS) as 10 (wJ cB cI cJ cZ cS a b s) [(0, .ref (a 36)), (1, .ref (b 0)), (2, .ref (a 38)), (4, .int x4), (5, .int x5), (6, .int x6)] [] (fun x u => x = r ∧ u = (wJ cB cI cJ cZ cS a b s'))) (hk20 : ∀ (s : JS) (x4 : Int32) (x5 : Int32) (x6 : Int32) (x7 : Int32), k20 s x4 x5 x6 x7 = some (r, s') → BlkI l yX2_fillRow wsX2_fillRow ({ frames := 2, cells := 0, slots := 0, locals := 45 }) cX2_fillRow 10 (some .int) (dC, dI) (tysA cB cI cJ cZ cS) as 20 (wJ cB cI cJ cZ cS a b s) [(0, .ref (a 36)), (1, .ref (b 0)), (2, .ref (a 38)), (4, .int x4), (5, .int x5), (6, .int x6), (7, .int x7)] [] (fun x u => x = r ∧ u = (wJ cB cI cJ cZ cS a b s'))) (s : JS) (x4 : Int32) (x5 : Int32) (x6 : Int32) (x7 : Int32) (hB : kX2_fillRow_far_20 k10 k20 s x4 x5 x6 x7 = some (r, s')) : BlkI l yX2_fillRow wsX2_fillRow ({ frames := 2, cells := 0, slots := 0, locals := 45 }) cX2_fillRow 10 (some .int) (dC, dI) (tysA cB cI cJ cZ cS) as 20 (wJ cB cI cJ cZ cS a b s) [(0, .ref (a 36)), (1, .ref (b 0)), (2, .ref (a 38)), (4, .int x4), (5, .int x5), (6, .int x6), (7, .int x7)] [] (fun x u => x = r ∧ u = (wJ cB cI cJ cZ cS a b s')) := by
  intro p e s0 m below meth c A E H locs ls hP hD hS hl
  obtain ⟨C, hr, hlocks, hA, hK, hN⟩ := id E
  obtain ⟨hx, hb, hml, hown, hts⟩ := id C
  unfold kX2_fillRow_far_20 at hB
  refine lv_iload hx hb dX2_fillRow_20 (lv_at hl 6 rfl) ?_
  refine lv_if_lt (tgt := 75) hx hb dX2_fillRow_22 (by decide) (fun c1 => ?_) (fun c1 => ?_)
  · have hB := if_p hB c1
    refine lv_iload hx hb dX2_fillRow_75 (lv_at hl 4 rfl) ?_
    refine lv_bipush (v := 6) hx hb dX2_fillRow_77 (by decide) ?_
    refine lv_imul hx hb dX2_fillRow_79 ?_
    refine lv_istore (lv' := [(5, .int (x5 * 6)), (0, .ref (a 36)), (1, .ref (b 0)), (2, .ref (a 38)), (4, .int x4), (6, .int x6), (7, .int x7)]) hx hb dX2_fillRow_80 hl (by decide) rfl (fun ls hl => ?_)
    refine lv_iinc (v := (x6 + 1)) (lv' := [(6, .int (x6 + 1)), (5, .int (x5 * 6)), (0, .ref (a 36)), (1, .ref (b 0)), (2, .ref (a 38)), (4, .int x4), (7, .int x7)]) hx hb dX2_fillRow_82 hl (k := 5) rfl (rfl) (by decide) rfl (fun ls hl => ?_)
    refine lv_goto (tgt := 10) hx hb dX2_fillRow_85 (by decide) ?_
    exact hk10 _ _ _ _ hB p e s0 m below meth c A E H locs ls hP hD hS (lv_sub hl [2, 3, 4, 5, 1, 0] rfl)
  · have hB := if_n hB c1
    refine lv_aload_n hx hb dX2_fillRow_25 rfl (lv_at hl 0 rfl) ?_
    refine lv_aload_n hx hb dX2_fillRow_26 rfl (lv_at hl 1 rfl) ?_
    refine lv_iload hx hb dX2_fillRow_27 (lv_at hl 5 rfl) ?_
    refine lv_iload hx hb dX2_fillRow_29 (lv_at hl 6 rfl) ?_
    obtain ⟨q_, s2, hc, hB⟩ := bindI_inv hB
    refine q_goiF (va_runV (As := [.ref (b 0), .int x6, .int x7]) (rest := []) C (ckX2_oddsIfMay hc _) (cwV 3 hts gX2_fillRow_X2_oddsIfMay rfl rfl rfl (by decide +kernel) ⟨Nat.le_of_ble_eq_true rfl, Nat.le_of_ble_eq_true rfl⟩) (q_preV hK hP (ci := 2) (q0 := 42) rfl rfl rfl (q_preF hN hK hP hD)) rfl rfl hl.1 rfl (lv_room (Nat.le_of_ble_eq_true rfl)) dX2_fillRow_31 ⟨Nat.le_of_ble_eq_true rfl, Nat.le_of_ble_eq_true rfl⟩) hD hS hA (fun r3 w1 H locs hw hP hD hS => ?_)
    obtain ⟨hq_, hw⟩ := hw; subst hw; subst hq_
    refine lv_istore (lv' := [(8, .int r3), (0, .ref (a 36)), (1, .ref (b 0)), (2, .ref (a 38)), (4, .int x4), (5, .int x5), (6, .int x6), (7, .int x7)]) hx hb dX2_fillRow_34 hl (by decide) rfl (fun ls hl => ?_)
    refine lv_iconst (v := 0) hx hb dX2_fillRow_36 (by decide) ?_
    refine lv_istore (lv' := [(9, .int 0), (8, .int r3), (0, .ref (a 36)), (1, .ref (b 0)), (2, .ref (a 38)), (4, .int x4), (5, .int x5), (6, .int x6), (7, .int x7)]) hx hb dX2_fillRow_37 hl (by decide) rfl (fun ls hl => ?_)
    exact bkX2_fillRow_far_39L (hk10) (hk20) fu _ _ _ _ _ _ _ hB p e s0 m below meth c A E H locs ls hP hD hS (lv_sub hl [2, 3, 4, 5, 6, 7, 8, 1, 0] rfl)
theorem bkX2_fillRow_far_20L {l : Launch} {dC : Nat → ClassId} {dI : Nat → Nat → Nat} {cB cI cJ cZ cS : ClassId} {a b : Nat → Nat} {as : List Value} {r : Int32} {s' : JS} {k10 : JS → Int32 → Int32 → Int32 → Option (Int32 × JS)} (hk10 : ∀ (s : JS) (x4 : Int32) (x5 : Int32) (x6 : Int32), k10 s x4 x5 x6 = some (r, s') → BlkI l yX2_fillRow wsX2_fillRow ({ frames := 2, cells := 0, slots := 0, locals := 45 }) cX2_fillRow 10 (some .int) (dC, dI) (tysA cB cI cJ cZ cS) as 10 (wJ cB cI cJ cZ cS a b s) [(0, .ref (a 36)), (1, .ref (b 0)), (2, .ref (a 38)), (4, .int x4), (5, .int x5), (6, .int x6)] [] (fun x u => x = r ∧ u = (wJ cB cI cJ cZ cS a b s'))) : ∀ (n : Nat) (s : JS) (x4 : Int32) (x5 : Int32) (x6 : Int32) (x7 : Int32), kX2_fillRow_far_20L k10 n s x4 x5 x6 x7 = some (r, s') → BlkI l yX2_fillRow wsX2_fillRow ({ frames := 2, cells := 0, slots := 0, locals := 45 }) cX2_fillRow 10 (some .int) (dC, dI) (tysA cB cI cJ cZ cS) as 20 (wJ cB cI cJ cZ cS a b s) [(0, .ref (a 36)), (1, .ref (b 0)), (2, .ref (a 38)), (4, .int x4), (5, .int x5), (6, .int x6), (7, .int x7)] [] (fun x u => x = r ∧ u = (wJ cB cI cJ cZ cS a b s')) := by
  intro n
  induction n with
  | zero => intro s x4 x5 x6 x7 hB; exact none_ne hB
  | succ n ih => intro s x4 x5 x6 x7 hB; exact bkX2_fillRow_far_20 hk10 ih _ _ _ _ _ hB
set_option maxHeartbeats 4000000 in
set_option maxRecDepth 100000 in
theorem bkX2_fillRow_far_10 {l : Launch} {dC : Nat → ClassId} {dI : Nat → Nat → Nat} {cB cI cJ cZ cS : ClassId} {a b : Nat → Nat} {as : List Value} {r : Int32} {s' : JS} {k10 : JS → Int32 → Int32 → Int32 → Option (Int32 × JS)} (hk10 : ∀ (s : JS) (x4 : Int32) (x5 : Int32) (x6 : Int32), k10 s x4 x5 x6 = some (r, s') → BlkI l yX2_fillRow wsX2_fillRow ({ frames := 2, cells := 0, slots := 0, locals := 45 }) cX2_fillRow 10 (some .int) (dC, dI) (tysA cB cI cJ cZ cS) as 10 (wJ cB cI cJ cZ cS a b s) [(0, .ref (a 36)), (1, .ref (b 0)), (2, .ref (a 38)), (4, .int x4), (5, .int x5), (6, .int x6)] [] (fun x u => x = r ∧ u = (wJ cB cI cJ cZ cS a b s'))) (s : JS) (x4 : Int32) (x5 : Int32) (x6 : Int32) (hB : kX2_fillRow_far_10 k10 s x4 x5 x6 = some (r, s')) : BlkI l yX2_fillRow wsX2_fillRow ({ frames := 2, cells := 0, slots := 0, locals := 45 }) cX2_fillRow 10 (some .int) (dC, dI) (tysA cB cI cJ cZ cS) as 10 (wJ cB cI cJ cZ cS a b s) [(0, .ref (a 36)), (1, .ref (b 0)), (2, .ref (a 38)), (4, .int x4), (5, .int x5), (6, .int x6)] [] (fun x u => x = r ∧ u = (wJ cB cI cJ cZ cS a b s')) := by
  intro p e s0 m below meth c A E H locs ls hP hD hS hl
  obtain ⟨C, hr, hlocks, hA, hK, hN⟩ := id E
  obtain ⟨hx, hb, hml, hown, hts⟩ := id C
  unfold kX2_fillRow_far_10 at hB
  refine lv_iload hx hb dX2_fillRow_10 (lv_at hl 5 rfl) ?_
  refine lv_iload hx hb dX2_fillRow_12 (lv_at hl 3 rfl) ?_
  refine lv_icmp_ge (tgt := 88) hx hb dX2_fillRow_14 (by decide) (fun c1 => ?_) (fun c1 => ?_)
  · have hB := if_p hB c1
    refine lv_iload hx hb dX2_fillRow_88 (lv_at hl 4 rfl) ?_
    exact q_iret C hr hlocks hK hP hD hS (Nat.le_of_ble_eq_true rfl) (Nat.le_of_ble_eq_true rfl) dX2_fillRow_90 (by cases hB; exact ⟨rfl, rfl⟩)
  · have hB := if_n hB c1
    refine lv_iconst (v := 5) hx hb dX2_fillRow_17 (by decide) ?_
    refine lv_istore (lv' := [(7, .int 5), (0, .ref (a 36)), (1, .ref (b 0)), (2, .ref (a 38)), (4, .int x4), (5, .int x5), (6, .int x6)]) hx hb dX2_fillRow_18 hl (by decide) rfl (fun ls hl => ?_)
    exact bkX2_fillRow_far_20L (hk10) fu _ _ _ _ _ hB p e s0 m below meth c A E H locs ls hP hD hS (lv_sub hl [1, 2, 3, 4, 5, 6, 0] rfl)
theorem bkX2_fillRow_far_10L {l : Launch} {dC : Nat → ClassId} {dI : Nat → Nat → Nat} {cB cI cJ cZ cS : ClassId} {a b : Nat → Nat} {as : List Value} {r : Int32} {s' : JS} : ∀ (n : Nat) (s : JS) (x4 : Int32) (x5 : Int32) (x6 : Int32), kX2_fillRow_far_10L n s x4 x5 x6 = some (r, s') → BlkI l yX2_fillRow wsX2_fillRow ({ frames := 2, cells := 0, slots := 0, locals := 45 }) cX2_fillRow 10 (some .int) (dC, dI) (tysA cB cI cJ cZ cS) as 10 (wJ cB cI cJ cZ cS a b s) [(0, .ref (a 36)), (1, .ref (b 0)), (2, .ref (a 38)), (4, .int x4), (5, .int x5), (6, .int x6)] [] (fun x u => x = r ∧ u = (wJ cB cI cJ cZ cS a b s')) := by
  intro n
  induction n with
  | zero => intro s x4 x5 x6 hB; exact none_ne hB
  | succ n ih => intro s x4 x5 x6 hB; exact bkX2_fillRow_far_10 ih _ _ _ _ hB
set_option maxHeartbeats 4000000 in
set_option maxRecDepth 100000 in
theorem bkX2_fillRow_far {l : Launch} {dC : Nat → ClassId} {dI : Nat → Nat → Nat} {cB cI cJ cZ cS : ClassId} {a b : Nat → Nat} {as : List Value} {r : Int32} {s' : JS} (s : JS) (x3 : Int32) (x4 : Int32) (hB : kX2_fillRow_far s x3 x4 = some (r, s')) : BlkI l yX2_fillRow wsX2_fillRow ({ frames := 2, cells := 0, slots := 0, locals := 45 }) cX2_fillRow 10 (some .int) (dC, dI) (tysA cB cI cJ cZ cS) as 0 (wJ cB cI cJ cZ cS a b s) [(0, .ref (a 36)), (1, .ref (b 0)), (2, .ref (a 38)), (3, .int x3), (4, .int x4)] [] (fun x u => x = r ∧ u = (wJ cB cI cJ cZ cS a b s')) := by
  intro p e s0 m below meth c A E H locs ls hP hD hS hl
  obtain ⟨C, hr, hlocks, hA, hK, hN⟩ := id E
  obtain ⟨hx, hb, hml, hown, hts⟩ := id C
  unfold kX2_fillRow_far at hB
  refine lv_iconst (v := 1) hx hb dX2_fillRow_0 (by decide) ?_
  refine lv_istore (lv' := [(5, .int 1), (0, .ref (a 36)), (1, .ref (b 0)), (2, .ref (a 38)), (3, .int x3), (4, .int x4)]) hx hb dX2_fillRow_1 hl (by decide) rfl (fun ls hl => ?_)
  refine lv_aload_n hx hb dX2_fillRow_3 rfl (lv_at hl 3 rfl) ?_
  refine lv_iconst (v := 0) hx hb dX2_fillRow_4 (by decide) ?_
  refine lv_iconst (v := 1) hx hb dX2_fillRow_5 (by decide) ?_
  obtain ⟨s1, hs2, hB⟩ := letS_inv hB
  refine q_iast (f2 := (upd (s.k.f 38) 0 1)) (w2 := (wJ cB cI cJ cZ cS a b s1)) C hK hP hD hS 44 1 rfl rfl (vp_lit (by decide +kernel)) dX2_fillRow_6 rfl (by subst hs2; rfl) (fun H locs hP hD hS => ?_)
  refine lv_iload_n hx hb dX2_fillRow_7 rfl (lv_at hl 4 rfl) ?_
  refine lv_istore (lv' := [(6, .int x3), (5, .int 1), (0, .ref (a 36)), (1, .ref (b 0)), (2, .ref (a 38)), (3, .int x3), (4, .int x4)]) hx hb dX2_fillRow_8 hl (by decide) rfl (fun ls hl => ?_)
  exact bkX2_fillRow_far_10L fu _ _ _ _ hB p e s0 m below meth c A E H locs ls hP hD hS (lv_sub hl [2, 3, 4, 6, 1, 0] rfl)
theorem ckX2_fillRow_far {l : Launch} {dC : Nat → ClassId} {dI : Nat → Nat → Nat} {cB cI cJ cZ cS : ClassId} {a b : Nat → Nat} {r : Int32} {s' : JS} {s : JS} {x3 : Int32} {x4 : Int32} (hB : kX2_fillRow_far s x3 x4 = some (r, s')) : CI l yX2_fillRow wsX2_fillRow ({ frames := 2, cells := 0, slots := 0, locals := 45 }) (dC, dI) (tysA cB cI cJ cZ cS) (wJ cB cI cJ cZ cS a b s) [.ref (a 36), .ref (b 0), .ref (a 38), .int x3, .int x4] (fun x u => x = r ∧ u = (wJ cB cI cJ cZ cS a b s')) :=
  CI_of (cc := cX2_fillRow) (maxL := 10) (ret := (some .int)) (by decide) rfl (Nat.le_of_ble_eq_true rfl) (bkX2_fillRow_far _ _ _ hB)
