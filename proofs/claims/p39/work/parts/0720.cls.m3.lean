section
theorem ggX4_readProduct_X4_readUnit : GoodIn wsX4_readProduct wsX4_readUnit := gi_sub (fun w h => (List.mem_cons.mp h).elim (fun e => by subst e; exact List.mem_cons_of_mem _ (List.mem_append_left _ (List.mem_append_left _ (List.mem_append_left _ (List.mem_append_left _ (List.mem_append_left _ (List.mem_of_getElem? (i := 31) rfl))))))) (fun h => List.mem_cons_of_mem _ h)) gd_wsX4_readUnit
set_option maxRecDepth 20000 in
theorem gX4_readProduct_X4_readUnit : GoodIn wsX4_readProduct (wsV RX4 143 RX4 yX4_readUnit wsX4_readUnit) := goodIn_app (goodIn_r _ [4, 5, 6, 7] (by decide +kernel) (by decide +kernel)) ggX4_readProduct_X4_readUnit
theorem ggX4_readProduct_X4_isAt : GoodIn wsX4_readProduct wsX4_isAt := gi_sub (fun w h => List.mem_cons_of_mem _ (List.mem_append_left _ (List.mem_append_left _ (List.mem_append_left _ (List.mem_append_left _ (List.mem_append_right _ (List.mem_append_left _ h))))))) gd_wsX4_isAt
set_option maxRecDepth 20000 in
theorem gX4_readProduct_X4_isAt : GoodIn wsX4_readProduct (wsV RX4 53 RX4 yX4_isAt wsX4_isAt) := goodIn_app (goodIn_r _ [8, 9, 10, 7] (by decide +kernel) (by decide +kernel)) ggX4_readProduct_X4_isAt
theorem ggX4_readProduct_X4_take : GoodIn wsX4_readProduct wsX4_take := gi_sub (fun w h => List.mem_cons_of_mem _ (List.mem_append_left _ (List.mem_append_left _ (List.mem_append_left _ (List.mem_append_left _ (List.mem_append_right _ (List.mem_append_right _ (List.mem_append_left _ h)))))))) gd_wsX4_take
set_option maxRecDepth 20000 in
theorem gX4_readProduct_X4_take : GoodIn wsX4_readProduct (wsV RX4 81 RX4 yX4_take wsX4_take) := goodIn_app (goodIn_r _ [11, 12, 13, 7] (by decide +kernel) (by decide +kernel)) ggX4_readProduct_X4_take
theorem ggX4_readProduct_X1_putSign : GoodIn wsX4_readProduct wsX1_putSign := gi_sub (fun w h => List.mem_cons_of_mem _ (List.mem_append_left _ (List.mem_append_left _ (List.mem_append_left _ (List.mem_append_left _ (List.mem_append_right _ (List.mem_append_right _ (List.mem_append_right _ (List.mem_append_left _ h))))))))) gd_wsX1_putSign
set_option maxRecDepth 20000 in
theorem gX4_readProduct_X1_putSign_n140 : GoodIn wsX4_readProduct (wsX1_putSign) := ggX4_readProduct_X1_putSign
theorem dX4_readProduct_0 : decode cX4_readProduct 0 = .ok (.aload_n 0, 1) := dc1_42 (by decide +kernel)
theorem dX4_readProduct_1 : decode cX4_readProduct 1 = .ok (.iload_n 1, 1) := dc1_27 (by decide +kernel)
theorem dX4_readProduct_2 : decode cX4_readProduct 2 = .ok (.invokevirtual 143, 3) := dcw_182 (by decide +kernel)
theorem dX4_readProduct_5 : decode cX4_readProduct 5 = .ok (.iconst 0, 1) := dc1_3 (by decide +kernel)
theorem dX4_readProduct_6 : decode cX4_readProduct 6 = .ok (.istore_n 2, 1) := dc1_61 (by decide +kernel)
theorem dX4_readProduct_7 : decode cX4_readProduct 7 = .ok (.iload_n 2, 1) := dc1_28 (by decide +kernel)
theorem dX4_readProduct_8 : decode cX4_readProduct 8 = .ok (.sipush 400, 3) := dcs_17 (n := 400) (by decide +kernel)
theorem dX4_readProduct_11 : decode cX4_readProduct 11 = .ok (.if_icmp .ge 61, 3) := dcs_162 (n := 61) (by decide +kernel)
theorem dX4_readProduct_14 : decode cX4_readProduct 14 = .ok (.aload_n 0, 1) := dc1_42 (by decide +kernel)
theorem dX4_readProduct_15 : decode cX4_readProduct 15 = .ok (.bipush 42, 2) := dcb_16 (n := 42) (by decide +kernel)
theorem dX4_readProduct_17 : decode cX4_readProduct 17 = .ok (.invokevirtual 53, 3) := dcw_182 (by decide +kernel)
theorem dX4_readProduct_20 : decode cX4_readProduct 20 = .ok (.ifCond .ne 12, 3) := dcs_154 (n := 12) (by decide +kernel)
theorem dX4_readProduct_23 : decode cX4_readProduct 23 = .ok (.aload_n 0, 1) := dc1_42 (by decide +kernel)
theorem dX4_readProduct_24 : decode cX4_readProduct 24 = .ok (.bipush 47, 2) := dcb_16 (n := 47) (by decide +kernel)
theorem dX4_readProduct_26 : decode cX4_readProduct 26 = .ok (.invokevirtual 53, 3) := dcw_182 (by decide +kernel)
theorem dX4_readProduct_29 : decode cX4_readProduct 29 = .ok (.ifCond .eq 43, 3) := dcs_153 (n := 43) (by decide +kernel)
theorem dX4_readProduct_32 : decode cX4_readProduct 32 = .ok (.aload_n 0, 1) := dc1_42 (by decide +kernel)
theorem dX4_readProduct_33 : decode cX4_readProduct 33 = .ok (.getfield 31, 3) := dcw_180 (by decide +kernel)
theorem dX4_readProduct_36 : decode cX4_readProduct 36 = .ok (.getfield 63, 3) := dcw_180 (by decide +kernel)
theorem dX4_readProduct_39 : decode cX4_readProduct 39 = .ok (.aload_n 0, 1) := dc1_42 (by decide +kernel)
theorem dX4_readProduct_40 : decode cX4_readProduct 40 = .ok (.getfield 38, 3) := dcw_180 (by decide +kernel)
theorem dX4_readProduct_43 : decode cX4_readProduct 43 = .ok (.iaload, 1) := dc1_46 (by decide +kernel)
theorem dX4_readProduct_44 : decode cX4_readProduct 44 = .ok (.istore_n 3, 1) := dc1_62 (by decide +kernel)
theorem dX4_readProduct_45 : decode cX4_readProduct 45 = .ok (.aload_n 0, 1) := dc1_42 (by decide +kernel)
theorem dX4_readProduct_46 : decode cX4_readProduct 46 = .ok (.iload_n 3, 1) := dc1_29 (by decide +kernel)
theorem dX4_readProduct_47 : decode cX4_readProduct 47 = .ok (.invokevirtual 81, 3) := dcw_182 (by decide +kernel)
theorem dX4_readProduct_50 : decode cX4_readProduct 50 = .ok (.aload_n 0, 1) := dc1_42 (by decide +kernel)
theorem dX4_readProduct_51 : decode cX4_readProduct 51 = .ok (.iload_n 1, 1) := dc1_27 (by decide +kernel)
theorem dX4_readProduct_52 : decode cX4_readProduct 52 = .ok (.invokevirtual 143, 3) := dcw_182 (by decide +kernel)
theorem dX4_readProduct_55 : decode cX4_readProduct 55 = .ok (.aload_n 0, 1) := dc1_42 (by decide +kernel)
theorem dX4_readProduct_56 : decode cX4_readProduct 56 = .ok (.getfield 12, 3) := dcw_180 (by decide +kernel)
theorem dX4_readProduct_59 : decode cX4_readProduct 59 = .ok (.getfield 119, 3) := dcw_180 (by decide +kernel)
theorem dX4_readProduct_62 : decode cX4_readProduct 62 = .ok (.iload_n 3, 1) := dc1_29 (by decide +kernel)
theorem dX4_readProduct_63 : decode cX4_readProduct 63 = .ok (.invokevirtual 140, 3) := dcw_182 (by decide +kernel)
theorem dX4_readProduct_66 : decode cX4_readProduct 66 = .ok (.iinc 2 1, 3) := dc_iinc (m := 1) (by decide +kernel)
theorem dX4_readProduct_69 : decode cX4_readProduct 69 = .ok (.goto (-62), 3) := dcs_167 (n := 65474) (by decide +kernel)
theorem dX4_readProduct_72 : decode cX4_readProduct 72 = .ok (.return_, 1) := dc1_177 (by decide +kernel)
theorem ggX9_split_X9_skipBlanks : GoodIn wsX9_split wsX9_skipBlanks := gi_sub (fun w h => List.mem_cons_of_mem _ (List.mem_append_left _ (List.mem_append_left _ (List.mem_append_right _ (List.mem_append_left _ h))))) gd_wsX9_skipBlanks
set_option maxRecDepth 20000 in
theorem gX9_split_X9_skipBlanks : GoodIn wsX9_split (wsV RX9 51 RX9 yX9_skipBlanks wsX9_skipBlanks) := goodIn_app (goodIn_r _ [6, 7, 8, 9] (by decide +kernel) (by decide +kernel)) ggX9_split_X9_skipBlanks
theorem ggX9_split_X9_splitOne : GoodIn wsX9_split wsX9_splitOne := gi_sub (fun w h => List.mem_cons_of_mem _ (List.mem_append_left _ (List.mem_append_left _ (List.mem_append_right _ (List.mem_append_right _ h))))) gd_wsX9_splitOne
set_option maxRecDepth 20000 in
theorem gX9_split_X9_splitOne : GoodIn wsX9_split (wsV RX9 54 RX9 yX9_splitOne wsX9_splitOne) := goodIn_app (goodIn_r _ [10, 11, 12, 9] (by decide +kernel) (by decide +kernel)) ggX9_split_X9_splitOne
theorem dX9_split_0 : decode cX9_split 0 = .ok (.aload_n 0, 1) := dc1_42 (by decide +kernel)
theorem dX9_split_1 : decode cX9_split 1 = .ok (.iconst 0, 1) := dc1_3 (by decide +kernel)
theorem dX9_split_2 : decode cX9_split 2 = .ok (.putfield 47, 3) := dcw_181 (by decide +kernel)
theorem dX9_split_5 : decode cX9_split 5 = .ok (.sipush 303, 3) := dcs_17 (n := 303) (by decide +kernel)
theorem dX9_split_8 : decode cX9_split 8 = .ok (.istore_n 1, 1) := dc1_60 (by decide +kernel)
theorem dX9_split_9 : decode cX9_split 9 = .ok (.iconst 0, 1) := dc1_3 (by decide +kernel)
theorem dX9_split_10 : decode cX9_split 10 = .ok (.istore_n 2, 1) := dc1_61 (by decide +kernel)
theorem dX9_split_11 : decode cX9_split 11 = .ok (.iload_n 2, 1) := dc1_28 (by decide +kernel)
theorem dX9_split_12 : decode cX9_split 12 = .ok (.sipush 400, 3) := dcs_17 (n := 400) (by decide +kernel)
theorem dX9_split_15 : decode cX9_split 15 = .ok (.if_icmp .gt 63, 3) := dcs_163 (n := 63) (by decide +kernel)
theorem dX9_split_18 : decode cX9_split 18 = .ok (.iload_n 2, 1) := dc1_28 (by decide +kernel)
theorem dX9_split_19 : decode cX9_split 19 = .ok (.ifCond .eq 17, 3) := dcs_153 (n := 17) (by decide +kernel)
theorem dX9_split_22 : decode cX9_split 22 = .ok (.iload_n 1, 1) := dc1_27 (by decide +kernel)
theorem dX9_split_23 : decode cX9_split 23 = .ok (.sipush 302, 3) := dcs_17 (n := 302) (by decide +kernel)
theorem dX9_split_26 : decode cX9_split 26 = .ok (.if_icmp .eq 52, 3) := dcs_159 (n := 52) (by decide +kernel)
theorem dX9_split_29 : decode cX9_split 29 = .ok (.iload_n 1, 1) := dc1_27 (by decide +kernel)
theorem dX9_split_30 : decode cX9_split 30 = .ok (.sipush 303, 3) := dcs_17 (n := 303) (by decide +kernel)
theorem dX9_split_33 : decode cX9_split 33 = .ok (.if_icmp .eq 45, 3) := dcs_159 (n := 45) (by decide +kernel)
theorem dX9_split_36 : decode cX9_split 36 = .ok (.aload_n 0, 1) := dc1_42 (by decide +kernel)
theorem dX9_split_37 : decode cX9_split 37 = .ok (.invokevirtual 51, 3) := dcw_182 (by decide +kernel)
theorem dX9_split_40 : decode cX9_split 40 = .ok (.aload_n 0, 1) := dc1_42 (by decide +kernel)
theorem dX9_split_41 : decode cX9_split 41 = .ok (.getfield 17, 3) := dcw_180 (by decide +kernel)
theorem dX9_split_44 : decode cX9_split 44 = .ok (.iload_n 2, 1) := dc1_28 (by decide +kernel)
theorem dX9_split_45 : decode cX9_split 45 = .ok (.aload_n 0, 1) := dc1_42 (by decide +kernel)
theorem dX9_split_46 : decode cX9_split 46 = .ok (.getfield 47, 3) := dcw_180 (by decide +kernel)
theorem dX9_split_49 : decode cX9_split 49 = .ok (.iastore, 1) := dc1_79 (by decide +kernel)
theorem dX9_split_50 : decode cX9_split 50 = .ok (.aload_n 0, 1) := dc1_42 (by decide +kernel)
theorem dX9_split_51 : decode cX9_split 51 = .ok (.invokevirtual 54, 3) := dcw_182 (by decide +kernel)
theorem dX9_split_54 : decode cX9_split 54 = .ok (.istore_n 1, 1) := dc1_60 (by decide +kernel)
theorem dX9_split_55 : decode cX9_split 55 = .ok (.aload_n 0, 1) := dc1_42 (by decide +kernel)
theorem dX9_split_56 : decode cX9_split 56 = .ok (.getfield 13, 3) := dcw_180 (by decide +kernel)
theorem dX9_split_59 : decode cX9_split 59 = .ok (.iload_n 2, 1) := dc1_28 (by decide +kernel)
theorem dX9_split_60 : decode cX9_split 60 = .ok (.iload_n 1, 1) := dc1_27 (by decide +kernel)
theorem dX9_split_61 : decode cX9_split 61 = .ok (.iastore, 1) := dc1_79 (by decide +kernel)
theorem dX9_split_62 : decode cX9_split 62 = .ok (.aload_n 0, 1) := dc1_42 (by decide +kernel)
theorem dX9_split_63 : decode cX9_split 63 = .ok (.getfield 20, 3) := dcw_180 (by decide +kernel)
theorem dX9_split_66 : decode cX9_split 66 = .ok (.iload_n 2, 1) := dc1_28 (by decide +kernel)
theorem dX9_split_67 : decode cX9_split 67 = .ok (.aload_n 0, 1) := dc1_42 (by decide +kernel)
theorem dX9_split_68 : decode cX9_split 68 = .ok (.getfield 57, 3) := dcw_180 (by decide +kernel)
theorem dX9_split_71 : decode cX9_split 71 = .ok (.lastore, 1) := dc1_80 (by decide +kernel)
theorem dX9_split_72 : decode cX9_split 72 = .ok (.iinc 2 1, 3) := dc_iinc (m := 1) (by decide +kernel)
theorem dX9_split_75 : decode cX9_split 75 = .ok (.goto (-64), 3) := dcs_167 (n := 65472) (by decide +kernel)
theorem dX9_split_78 : decode cX9_split 78 = .ok (.return_, 1) := dc1_177 (by decide +kernel)
theorem ggX9_splitOne_X7_byteAt : GoodIn wsX9_splitOne wsX7_byteAt := gi_sub (fun w h => List.mem_cons_of_mem _ (List.mem_append_left _ (List.mem_append_left _ (List.mem_append_right _ (List.mem_append_left _ h))))) gd_wsX7_byteAt
set_option maxRecDepth 20000 in
theorem gX9_splitOne_X7_byteAt_n65 : GoodIn wsX9_splitOne (wsX7_byteAt) := ggX9_splitOne_X7_byteAt
theorem ggX9_splitOne_X9_isLetter : GoodIn wsX9_splitOne wsX9_isLetter := gi_sub (fun w h => List.mem_cons_of_mem _ (List.mem_append_left _ (List.mem_append_left _ (List.mem_append_right _ (List.mem_append_right _ (List.mem_append_left _ h)))))) gd_wsX9_isLetter
set_option maxRecDepth 20000 in
theorem gX9_splitOne_X9_isLetter : GoodIn wsX9_splitOne (va_wsS RX9 39 yX9_isLetter wsX9_isLetter) := goodIn_app (goodIn_of _ (by decide +kernel)) ggX9_splitOne_X9_isLetter
theorem ggX9_splitOne_X9_splitLetters : GoodIn wsX9_splitOne wsX9_splitLetters := gi_sub (fun w h => List.mem_cons_of_mem _ (List.mem_append_left _ (List.mem_append_left _ (List.mem_append_right _ (List.mem_append_right _ (List.mem_append_right _ (List.mem_append_left _ h))))))) gd_wsX9_splitLetters
set_option maxRecDepth 20000 in
theorem gX9_splitOne_X9_splitLetters : GoodIn wsX9_splitOne (wsV RX9 72 RX9 yX9_splitLetters wsX9_splitLetters) := goodIn_app (goodIn_r _ [10, 11, 12, 9] (by decide +kernel) (by decide +kernel)) ggX9_splitOne_X9_splitLetters
theorem ggX9_splitOne_X9_isDigit : GoodIn wsX9_splitOne wsX9_isDigit := gi_sub (fun w h => List.mem_cons_of_mem _ (List.mem_append_left _ (List.mem_append_left _ (List.mem_append_right _ (List.mem_append_right _ (List.mem_append_right _ (List.mem_append_right _ (List.mem_append_left _ h)))))))) gd_wsX9_isDigit
set_option maxRecDepth 20000 in
theorem gX9_splitOne_X9_isDigit : GoodIn wsX9_splitOne (va_wsS RX9 75 yX9_isDigit wsX9_isDigit) := goodIn_app (goodIn_of _ (by decide +kernel)) ggX9_splitOne_X9_isDigit
theorem ggX9_splitOne_X9_splitDigits : GoodIn wsX9_splitOne wsX9_splitDigits := gi_sub (fun w h => List.mem_cons_of_mem _ (List.mem_append_left _ (List.mem_append_left _ (List.mem_append_right _ (List.mem_append_right _ (List.mem_append_right _ (List.mem_append_right _ (List.mem_append_right _ (List.mem_append_left _ h))))))))) gd_wsX9_splitDigits
set_option maxRecDepth 20000 in
theorem gX9_splitOne_X9_splitDigits : GoodIn wsX9_splitOne (wsV RX9 78 RX9 yX9_splitDigits wsX9_splitDigits) := goodIn_app (goodIn_r _ [15, 16, 17, 9] (by decide +kernel) (by decide +kernel)) ggX9_splitOne_X9_splitDigits
theorem ggX9_splitOne_J0_indexOf_0f7a4 : GoodIn wsX9_splitOne wsJ0_indexOf_0f7a4 := gi_sub (fun w h => List.mem_cons_of_mem _ (List.mem_append_left _ (List.mem_append_left _ (List.mem_append_right _ (List.mem_append_right _ (List.mem_append_right _ (List.mem_append_right _ (List.mem_append_right _ (List.mem_append_right _ h))))))))) gd_wsJ0_indexOf_0f7a4
set_option maxRecDepth 20000 in
theorem gX9_splitOne_J0_indexOf_0f7a4 : GoodIn wsX9_splitOne (wsV RX9 83 RJ0 yJ0_indexOf_0f7a4 wsJ0_indexOf_0f7a4) := goodIn_app (goodIn_r _ [18, 19, 20, 21] (by decide +kernel) (by decide +kernel)) ggX9_splitOne_J0_indexOf_0f7a4
theorem dX9_splitOne_0 : decode cX9_splitOne 0 = .ok (.aload_n 0, 1) := dc1_42 (by decide +kernel)
theorem dX9_splitOne_1 : decode cX9_splitOne 1 = .ok (.lconst 0, 1) := dc1_9 (by decide +kernel)
theorem dX9_splitOne_2 : decode cX9_splitOne 2 = .ok (.putfield 57, 3) := dcw_181 (by decide +kernel)
theorem dX9_splitOne_5 : decode cX9_splitOne 5 = .ok (.aload_n 0, 1) := dc1_42 (by decide +kernel)
theorem dX9_splitOne_6 : decode cX9_splitOne 6 = .ok (.getfield 23, 3) := dcw_180 (by decide +kernel)
theorem dX9_splitOne_9 : decode cX9_splitOne 9 = .ok (.aload_n 0, 1) := dc1_42 (by decide +kernel)
theorem dX9_splitOne_10 : decode cX9_splitOne 10 = .ok (.getfield 47, 3) := dcw_180 (by decide +kernel)
theorem dX9_splitOne_13 : decode cX9_splitOne 13 = .ok (.invokevirtual 65, 3) := dcw_182 (by decide +kernel)
theorem dX9_splitOne_16 : decode cX9_splitOne 16 = .ok (.istore_n 1, 1) := dc1_60 (by decide +kernel)
theorem dX9_splitOne_17 : decode cX9_splitOne 17 = .ok (.iload_n 1, 1) := dc1_27 (by decide +kernel)
theorem dX9_splitOne_18 : decode cX9_splitOne 18 = .ok (.iconst (-1), 1) := dc1_2 (by decide +kernel)
theorem dX9_splitOne_19 : decode cX9_splitOne 19 = .ok (.if_icmp .ne 7, 3) := dcs_160 (n := 7) (by decide +kernel)
theorem dX9_splitOne_22 : decode cX9_splitOne 22 = .ok (.sipush 302, 3) := dcs_17 (n := 302) (by decide +kernel)
theorem dX9_splitOne_25 : decode cX9_splitOne 25 = .ok (.ireturn, 1) := dc1_172 (by decide +kernel)
theorem dX9_splitOne_26 : decode cX9_splitOne 26 = .ok (.iload_n 1, 1) := dc1_27 (by decide +kernel)
theorem dX9_splitOne_27 : decode cX9_splitOne 27 = .ok (.invokestatic 39, 3) := dcw_184 (by decide +kernel)
theorem dX9_splitOne_30 : decode cX9_splitOne 30 = .ok (.ifCond .eq 8, 3) := dcs_153 (n := 8) (by decide +kernel)
theorem dX9_splitOne_33 : decode cX9_splitOne 33 = .ok (.aload_n 0, 1) := dc1_42 (by decide +kernel)
theorem dX9_splitOne_34 : decode cX9_splitOne 34 = .ok (.invokevirtual 72, 3) := dcw_182 (by decide +kernel)
theorem dX9_splitOne_37 : decode cX9_splitOne 37 = .ok (.ireturn, 1) := dc1_172 (by decide +kernel)
theorem dX9_splitOne_38 : decode cX9_splitOne 38 = .ok (.iload_n 1, 1) := dc1_27 (by decide +kernel)
theorem dX9_splitOne_39 : decode cX9_splitOne 39 = .ok (.invokestatic 75, 3) := dcw_184 (by decide +kernel)
theorem dX9_splitOne_42 : decode cX9_splitOne 42 = .ok (.ifCond .eq 8, 3) := dcs_153 (n := 8) (by decide +kernel)
theorem dX9_splitOne_45 : decode cX9_splitOne 45 = .ok (.aload_n 0, 1) := dc1_42 (by decide +kernel)
theorem dX9_splitOne_46 : decode cX9_splitOne 46 = .ok (.invokevirtual 78, 3) := dcw_182 (by decide +kernel)
theorem dX9_splitOne_49 : decode cX9_splitOne 49 = .ok (.ireturn, 1) := dc1_172 (by decide +kernel)
theorem dX9_splitOne_50 : decode cX9_splitOne 50 = .ok (.aload_n 0, 1) := dc1_42 (by decide +kernel)
theorem dX9_splitOne_51 : decode cX9_splitOne 51 = .ok (.dup, 1) := dc1_89 (by decide +kernel)
theorem dX9_splitOne_52 : decode cX9_splitOne 52 = .ok (.getfield 47, 3) := dcw_180 (by decide +kernel)
theorem dX9_splitOne_55 : decode cX9_splitOne 55 = .ok (.iconst 1, 1) := dc1_4 (by decide +kernel)
theorem dX9_splitOne_56 : decode cX9_splitOne 56 = .ok (.iadd, 1) := dc1_96 (by decide +kernel)
theorem dX9_splitOne_57 : decode cX9_splitOne 57 = .ok (.putfield 47, 3) := dcw_181 (by decide +kernel)
theorem dX9_splitOne_60 : decode cX9_splitOne 60 = .ok (.ldc 81, 2) := dcu_18 (by decide +kernel)
theorem dX9_splitOne_62 : decode cX9_splitOne 62 = .ok (.iload_n 1, 1) := dc1_27 (by decide +kernel)
theorem dX9_splitOne_63 : decode cX9_splitOne 63 = .ok (.i2c, 1) := dc1_146 (by decide +kernel)
theorem dX9_splitOne_64 : decode cX9_splitOne 64 = .ok (.invokevirtual 83, 3) := dcw_182 (by decide +kernel)
theorem dX9_splitOne_67 : decode cX9_splitOne 67 = .ok (.ifCond .lt 7, 3) := dcs_155 (n := 7) (by decide +kernel)
theorem dX9_splitOne_70 : decode cX9_splitOne 70 = .ok (.iload_n 1, 1) := dc1_27 (by decide +kernel)
theorem dX9_splitOne_71 : decode cX9_splitOne 71 = .ok (.goto 6, 3) := dcs_167 (n := 6) (by decide +kernel)
theorem dX9_splitOne_74 : decode cX9_splitOne 74 = .ok (.sipush 303, 3) := dcs_17 (n := 303) (by decide +kernel)
theorem dX9_splitOne_77 : decode cX9_splitOne 77 = .ok (.ireturn, 1) := dc1_172 (by decide +kernel)
theorem ggX10_buoy_X5_hasWave : GoodIn wsX10_buoy wsX5_hasWave := gi_sub (fun w h => List.mem_cons_of_mem _ (List.mem_append_left _ (List.mem_append_left _ (List.mem_append_left _ (List.mem_append_left _ (List.mem_append_right _ (List.mem_append_left _ h))))))) gd_wsX5_hasWave
set_option maxRecDepth 20000 in
theorem gX10_buoy_X5_hasWave_n108 : GoodIn wsX10_buoy (wsX5_hasWave) := ggX10_buoy_X5_hasWave
theorem ggX10_buoy_X10_isThing : GoodIn wsX10_buoy wsX10_isThing := gi_sub (fun w h => List.mem_cons_of_mem _ (List.mem_append_left _ (List.mem_append_left _ (List.mem_append_left _ (List.mem_append_left _ (List.mem_append_right _ (List.mem_append_right _ (List.mem_append_left _ h)))))))) gd_wsX10_isThing
set_option maxRecDepth 20000 in
theorem gX10_buoy_X10_isThing : GoodIn wsX10_buoy (va_wsS RX10 131 yX10_isThing wsX10_isThing) := goodIn_app (goodIn_of _ (by decide +kernel)) ggX10_buoy_X10_isThing
theorem ggX10_buoy_X10_has : GoodIn wsX10_buoy wsX10_has := gi_sub (fun w h => List.mem_cons_of_mem _ (List.mem_append_left _ (List.mem_append_left _ (List.mem_append_left _ (List.mem_append_left _ (List.mem_append_right _ (List.mem_append_right _ (List.mem_append_right _ (List.mem_append_left _ h))))))))) gd_wsX10_has
set_option maxRecDepth 20000 in
theorem gX10_buoy_X10_has : GoodIn wsX10_buoy (va_wsS RX10 181 yX10_has wsX10_has) := goodIn_app (goodIn_of _ (by decide +kernel)) ggX10_buoy_X10_has
theorem ggX10_buoy_X3_remember : GoodIn wsX10_buoy wsX3_remember := gi_sub (fun w h => List.mem_cons_of_mem _ (List.mem_append_left _ (List.mem_append_left _ (List.mem_append_left _ (List.mem_append_left _ (List.mem_append_right _ (List.mem_append_right _ (List.mem_append_right _ (List.mem_append_right _ h))))))))) gd_wsX3_remember
set_option maxRecDepth 20000 in
theorem gX10_buoy_X3_remember_n173 : GoodIn wsX10_buoy (wsX3_remember) := ggX10_buoy_X3_remember
theorem dX10_buoy_0 : decode cX10_buoy 0 = .ok (.aload_n 0, 1) := dc1_42 (by decide +kernel)
theorem dX10_buoy_1 : decode cX10_buoy 1 = .ok (.getfield 19, 3) := dcw_180 (by decide +kernel)
theorem dX10_buoy_4 : decode cX10_buoy 4 = .ok (.iload_n 1, 1) := dc1_27 (by decide +kernel)
theorem dX10_buoy_5 : decode cX10_buoy 5 = .ok (.invokevirtual 108, 3) := dcw_182 (by decide +kernel)
theorem dX10_buoy_8 : decode cX10_buoy 8 = .ok (.ifCond .eq 10, 3) := dcs_153 (n := 10) (by decide +kernel)
theorem dX10_buoy_11 : decode cX10_buoy 11 = .ok (.iload_n 2, 1) := dc1_28 (by decide +kernel)
theorem dX10_buoy_12 : decode cX10_buoy 12 = .ok (.invokestatic 131, 3) := dcw_184 (by decide +kernel)
theorem dX10_buoy_15 : decode cX10_buoy 15 = .ok (.ifCond .ne 5, 3) := dcs_154 (n := 5) (by decide +kernel)
theorem dX10_buoy_18 : decode cX10_buoy 18 = .ok (.iconst 0, 1) := dc1_3 (by decide +kernel)
theorem dX10_buoy_19 : decode cX10_buoy 19 = .ok (.ireturn, 1) := dc1_172 (by decide +kernel)
theorem dX10_buoy_20 : decode cX10_buoy 20 = .ok (.aload_n 0, 1) := dc1_42 (by decide +kernel)
theorem dX10_buoy_21 : decode cX10_buoy 21 = .ok (.getfield 35, 3) := dcw_180 (by decide +kernel)
theorem dX10_buoy_24 : decode cX10_buoy 24 = .ok (.getfield 119, 3) := dcw_180 (by decide +kernel)
theorem dX10_buoy_27 : decode cX10_buoy 27 = .ok (.iload_n 1, 1) := dc1_27 (by decide +kernel)
theorem dX10_buoy_28 : decode cX10_buoy 28 = .ok (.iaload, 1) := dc1_46 (by decide +kernel)
theorem dX10_buoy_29 : decode cX10_buoy 29 = .ok (.iload_n 2, 1) := dc1_28 (by decide +kernel)
theorem dX10_buoy_30 : decode cX10_buoy 30 = .ok (.invokestatic 181, 3) := dcw_184 (by decide +kernel)
theorem dX10_buoy_33 : decode cX10_buoy 33 = .ok (.iload_n 3, 1) := dc1_29 (by decide +kernel)
theorem dX10_buoy_34 : decode cX10_buoy 34 = .ok (.if_icmp .ne 5, 3) := dcs_160 (n := 5) (by decide +kernel)
theorem dX10_buoy_37 : decode cX10_buoy 37 = .ok (.iconst 0, 1) := dc1_3 (by decide +kernel)
theorem dX10_buoy_38 : decode cX10_buoy 38 = .ok (.ireturn, 1) := dc1_172 (by decide +kernel)
theorem dX10_buoy_39 : decode cX10_buoy 39 = .ok (.aload_n 0, 1) := dc1_42 (by decide +kernel)
theorem dX10_buoy_40 : decode cX10_buoy 40 = .ok (.getfield 45, 3) := dcw_180 (by decide +kernel)
theorem dX10_buoy_43 : decode cX10_buoy 43 = .ok (.aload_n 0, 1) := dc1_42 (by decide +kernel)
theorem dX10_buoy_44 : decode cX10_buoy 44 = .ok (.getfield 35, 3) := dcw_180 (by decide +kernel)
theorem dX10_buoy_47 : decode cX10_buoy 47 = .ok (.invokevirtual 173, 3) := dcw_182 (by decide +kernel)
theorem dX10_buoy_50 : decode cX10_buoy 50 = .ok (.aload_n 0, 1) := dc1_42 (by decide +kernel)
theorem dX10_buoy_51 : decode cX10_buoy 51 = .ok (.getfield 35, 3) := dcw_180 (by decide +kernel)
theorem dX10_buoy_54 : decode cX10_buoy 54 = .ok (.getfield 119, 3) := dcw_180 (by decide +kernel)
theorem dX10_buoy_57 : decode cX10_buoy 57 = .ok (.iload_n 1, 1) := dc1_27 (by decide +kernel)
theorem dX10_buoy_58 : decode cX10_buoy 58 = .ok (.dup2, 1) := dc1_92 (by decide +kernel)
theorem dX10_buoy_59 : decode cX10_buoy 59 = .ok (.iaload, 1) := dc1_46 (by decide +kernel)
theorem dX10_buoy_60 : decode cX10_buoy 60 = .ok (.iconst 1, 1) := dc1_4 (by decide +kernel)
theorem dX10_buoy_61 : decode cX10_buoy 61 = .ok (.iload_n 2, 1) := dc1_28 (by decide +kernel)
theorem dX10_buoy_62 : decode cX10_buoy 62 = .ok (.ishl, 1) := dc1_120 (by decide +kernel)
theorem dX10_buoy_63 : decode cX10_buoy 63 = .ok (.ixor, 1) := dc1_130 (by decide +kernel)
theorem dX10_buoy_64 : decode cX10_buoy 64 = .ok (.iastore, 1) := dc1_79 (by decide +kernel)
theorem dX10_buoy_65 : decode cX10_buoy 65 = .ok (.iconst 1, 1) := dc1_4 (by decide +kernel)
theorem dX10_buoy_66 : decode cX10_buoy 66 = .ok (.ireturn, 1) := dc1_172 (by decide +kernel)
theorem ggX10_fetch_X5_hasParty : GoodIn wsX10_fetch wsX5_hasParty := gi_sub (fun w h => List.mem_cons_of_mem _ (List.mem_append_left _ (List.mem_append_left _ (List.mem_append_left _ (List.mem_append_left _ (List.mem_append_right _ (List.mem_append_left _ h))))))) gd_wsX5_hasParty
set_option maxRecDepth 20000 in
theorem gX10_fetch_X5_hasParty_n138 : GoodIn wsX10_fetch (wsX5_hasParty) := ggX10_fetch_X5_hasParty
theorem ggX10_fetch_X3_remember : GoodIn wsX10_fetch wsX3_remember := gi_sub (fun w h => List.mem_cons_of_mem _ (List.mem_append_left _ (List.mem_append_left _ (List.mem_append_left _ (List.mem_append_left _ (List.mem_append_right _ (List.mem_append_right _ h))))))) gd_wsX3_remember
set_option maxRecDepth 20000 in
theorem gX10_fetch_X3_remember_n173 : GoodIn wsX10_fetch (wsX3_remember) := ggX10_fetch_X3_remember
theorem dX10_fetch_0 : decode cX10_fetch 0 = .ok (.aload_n 0, 1) := dc1_42 (by decide +kernel)
theorem dX10_fetch_1 : decode cX10_fetch 1 = .ok (.getfield 19, 3) := dcw_180 (by decide +kernel)
theorem dX10_fetch_4 : decode cX10_fetch 4 = .ok (.iload_n 1, 1) := dc1_27 (by decide +kernel)
theorem dX10_fetch_5 : decode cX10_fetch 5 = .ok (.invokevirtual 138, 3) := dcw_182 (by decide +kernel)
theorem dX10_fetch_8 : decode cX10_fetch 8 = .ok (.ifCond .eq 15, 3) := dcs_153 (n := 15) (by decide +kernel)
theorem dX10_fetch_11 : decode cX10_fetch 11 = .ok (.aload_n 0, 1) := dc1_42 (by decide +kernel)
theorem dX10_fetch_12 : decode cX10_fetch 12 = .ok (.getfield 35, 3) := dcw_180 (by decide +kernel)
theorem dX10_fetch_15 : decode cX10_fetch 15 = .ok (.getfield 147, 3) := dcw_180 (by decide +kernel)
theorem dX10_fetch_18 : decode cX10_fetch 18 = .ok (.iload_n 1, 1) := dc1_27 (by decide +kernel)
theorem dX10_fetch_19 : decode cX10_fetch 19 = .ok (.iaload, 1) := dc1_46 (by decide +kernel)
theorem dX10_fetch_20 : decode cX10_fetch 20 = .ok (.ifCond .ne 5, 3) := dcs_154 (n := 5) (by decide +kernel)
theorem dX10_fetch_23 : decode cX10_fetch 23 = .ok (.iconst 0, 1) := dc1_3 (by decide +kernel)
theorem dX10_fetch_24 : decode cX10_fetch 24 = .ok (.ireturn, 1) := dc1_172 (by decide +kernel)
theorem dX10_fetch_25 : decode cX10_fetch 25 = .ok (.aload_n 0, 1) := dc1_42 (by decide +kernel)
theorem dX10_fetch_26 : decode cX10_fetch 26 = .ok (.getfield 45, 3) := dcw_180 (by decide +kernel)
theorem dX10_fetch_29 : decode cX10_fetch 29 = .ok (.aload_n 0, 1) := dc1_42 (by decide +kernel)
theorem dX10_fetch_30 : decode cX10_fetch 30 = .ok (.getfield 35, 3) := dcw_180 (by decide +kernel)
theorem dX10_fetch_33 : decode cX10_fetch 33 = .ok (.invokevirtual 173, 3) := dcw_182 (by decide +kernel)
theorem dX10_fetch_36 : decode cX10_fetch 36 = .ok (.aload_n 0, 1) := dc1_42 (by decide +kernel)
theorem dX10_fetch_37 : decode cX10_fetch 37 = .ok (.getfield 35, 3) := dcw_180 (by decide +kernel)
theorem dX10_fetch_40 : decode cX10_fetch 40 = .ok (.getfield 147, 3) := dcw_180 (by decide +kernel)
theorem dX10_fetch_43 : decode cX10_fetch 43 = .ok (.iload_n 1, 1) := dc1_27 (by decide +kernel)
theorem dX10_fetch_44 : decode cX10_fetch 44 = .ok (.iconst 0, 1) := dc1_3 (by decide +kernel)
theorem dX10_fetch_45 : decode cX10_fetch 45 = .ok (.iastore, 1) := dc1_79 (by decide +kernel)
theorem dX10_fetch_46 : decode cX10_fetch 46 = .ok (.iconst 1, 1) := dc1_4 (by decide +kernel)
theorem dX10_fetch_47 : decode cX10_fetch 47 = .ok (.ireturn, 1) := dc1_172 (by decide +kernel)
theorem ggX10_undo_X3_takeBack : GoodIn wsX10_undo wsX3_takeBack := gi_sub (fun w h => List.mem_cons_of_mem _ (List.mem_append_left _ (List.mem_append_left _ (List.mem_append_left _ (List.mem_append_right _ h))))) gd_wsX3_takeBack
set_option maxRecDepth 20000 in
theorem gX10_undo_X3_takeBack_n192 : GoodIn wsX10_undo (wsX3_takeBack) := ggX10_undo_X3_takeBack
theorem dX10_undo_0 : decode cX10_undo 0 = .ok (.aload_n 0, 1) := dc1_42 (by decide +kernel)
theorem dX10_undo_1 : decode cX10_undo 1 = .ok (.getfield 45, 3) := dcw_180 (by decide +kernel)
theorem dX10_undo_4 : decode cX10_undo 4 = .ok (.aload_n 0, 1) := dc1_42 (by decide +kernel)
theorem dX10_undo_5 : decode cX10_undo 5 = .ok (.getfield 35, 3) := dcw_180 (by decide +kernel)
theorem dX10_undo_8 : decode cX10_undo 8 = .ok (.invokevirtual 192, 3) := dcw_182 (by decide +kernel)
theorem dX10_undo_11 : decode cX10_undo 11 = .ok (.ireturn, 1) := dc1_172 (by decide +kernel)
theorem ggX10_hold_X3_keepIn : GoodIn wsX10_hold wsX3_keepIn := gi_sub (fun w h => List.mem_cons_of_mem _ (List.mem_append_left _ (List.mem_append_left _ (List.mem_append_left _ (List.mem_append_right _ h))))) gd_wsX3_keepIn
set_option maxRecDepth 20000 in
theorem gX10_hold_X3_keepIn_n282 : GoodIn wsX10_hold (wsX3_keepIn) := ggX10_hold_X3_keepIn
theorem dX10_hold_0 : decode cX10_hold 0 = .ok (.aload_n 0, 1) := dc1_42 (by decide +kernel)
theorem dX10_hold_1 : decode cX10_hold 1 = .ok (.getfield 45, 3) := dcw_180 (by decide +kernel)
theorem dX10_hold_4 : decode cX10_hold 4 = .ok (.iload_n 1, 1) := dc1_27 (by decide +kernel)
theorem dX10_hold_5 : decode cX10_hold 5 = .ok (.aload_n 0, 1) := dc1_42 (by decide +kernel)
theorem dX10_hold_6 : decode cX10_hold 6 = .ok (.getfield 35, 3) := dcw_180 (by decide +kernel)
theorem dX10_hold_9 : decode cX10_hold 9 = .ok (.invokevirtual 282, 3) := dcw_182 (by decide +kernel)
theorem dX10_hold_12 : decode cX10_hold 12 = .ok (.ireturn, 1) := dc1_172 (by decide +kernel)
theorem ggX10_restore_X3_goOnFrom : GoodIn wsX10_restore wsX3_goOnFrom := gi_sub (fun w h => List.mem_cons_of_mem _ (List.mem_append_left _ (List.mem_append_left _ (List.mem_append_left _ (List.mem_append_right _ h))))) gd_wsX3_goOnFrom
set_option maxRecDepth 20000 in
theorem gX10_restore_X3_goOnFrom_n286 : GoodIn wsX10_restore (wsX3_goOnFrom) := ggX10_restore_X3_goOnFrom
theorem dX10_restore_0 : decode cX10_restore 0 = .ok (.aload_n 0, 1) := dc1_42 (by decide +kernel)
theorem dX10_restore_1 : decode cX10_restore 1 = .ok (.getfield 45, 3) := dcw_180 (by decide +kernel)
theorem dX10_restore_4 : decode cX10_restore 4 = .ok (.iload_n 1, 1) := dc1_27 (by decide +kernel)
theorem dX10_restore_5 : decode cX10_restore 5 = .ok (.aload_n 0, 1) := dc1_42 (by decide +kernel)
theorem dX10_restore_6 : decode cX10_restore 6 = .ok (.getfield 35, 3) := dcw_180 (by decide +kernel)
theorem dX10_restore_9 : decode cX10_restore 9 = .ok (.invokevirtual 286, 3) := dcw_182 (by decide +kernel)
theorem dX10_restore_12 : decode cX10_restore 12 = .ok (.ireturn, 1) := dc1_172 (by decide +kernel)
theorem LX9_splitOne_23 : Cond.fieldLink RX9 23 "GuessFerry$Tokens" "tape" "LGuessFerry$Tape;" ∈ wsX9_splitOne := (List.mem_cons_of_mem _ (List.mem_append_left _ (List.mem_append_left _ (List.mem_append_left _ (List.mem_of_getElem? (i := 1) rfl)))))
theorem LX9_splitOne_47 : Cond.fieldLink RX9 47 "GuessFerry$Tokens" "end" "I" ∈ wsX9_splitOne := (List.mem_cons_of_mem _ (List.mem_append_left _ (List.mem_append_left _ (List.mem_append_left _ (List.mem_of_getElem? (i := 2) rfl)))))
theorem LX9_splitOne_57 : Cond.fieldLink RX9 57 "GuessFerry$Tokens" "value" "J" ∈ wsX9_splitOne := (List.mem_cons_of_mem _ (List.mem_append_left _ (List.mem_append_left _ (List.mem_append_left _ (List.mem_of_getElem? (i := 0) rfl)))))
theorem LX9_splitOne_E_X7_byteAt : Cond.selects RX7 yX7_byteAt yX7_byteAt ∈ wsX9_splitOne := (List.mem_cons_of_mem _ (List.mem_append_left _ (List.mem_append_left _ (List.mem_append_left _ (List.mem_of_getElem? (i := 5) rfl)))))
theorem LX9_splitOne_I_X7 : Cond.initialized RX7 ∈ wsX9_splitOne := (List.mem_cons_of_mem _ (List.mem_append_left _ (List.mem_append_left _ (List.mem_append_left _ (List.mem_of_getElem? (i := 4) rfl)))))
theorem LX9_splitOne_N_X7_byteAt : Cond.instanceMethod yX7_byteAt ∈ wsX9_splitOne := (List.mem_cons_of_mem _ (List.mem_append_left _ (List.mem_append_left _ (List.mem_append_left _ (List.mem_of_getElem? (i := 3) rfl)))))
theorem inX9_splitOne_X9 : ∀ w ∈ u_ws RX9 TX9 7, w ∈ wsX9_splitOne := fun w h => (List.mem_cons_of_mem _ (List.mem_append_left _ (List.mem_append_right _ h)))
set_option maxHeartbeats 4000000 in
set_option maxRecDepth 100000 in
theorem bkX9_splitOne {l : Launch} {dC : Nat → ClassId} {dI : Nat → Nat → Nat} {cB cI cJ cZ cS : ClassId} {ak av : Nat} {a : Nat → Nat} {as : List Value} {r : Int32} {s' : KS} (s : KS) (hB : kX9_splitOne s = some (r, s')) : BlkIS ak av l yX9_splitOne wsX9_splitOne ({ frames := 4, cells := 0, slots := 0, locals := 91 }) cX9_splitOne 2 (some .int) (dC, dI) (tysA cB cI cJ cZ cS) as 0 (wK cB cI cJ cZ cS a s) [(0, .ref (a 30))] [] (fun x u => x = r ∧ u = (wK cB cI cJ cZ cS a s')) := by
  intro p e s0 m below meth c A E hX H locs ls hP hD hS hl
  obtain ⟨C, hr, hlocks, hA, hK, hN⟩ := id E
  obtain ⟨hx, hb, hml, hown, hts⟩ := id C
  unfold kX9_splitOne at hB
  refine lv_aload_n hx hb dX9_splitOne_0 rfl (lv_at hl 0 rfl) ?_
  refine lv_lconst (v := 0) hx hb dX9_splitOne_1 (by decide) ?_
  obtain ⟨s1, hs2, hB⟩ := letS_inv hB
  refine q_put (ty := .long) (w2 := (wK cB cI cJ cZ cS a s1)) tyX9 tyX9_ok nmX9 C inX9_splitOne_X9 hK hP hD hS 30 rfl rfl 6 (by decide) rfl LX9_splitOne_57 rfl (by decide +kernel) (rfl) rfl (Nat.le_of_ble_eq_true rfl) dX9_splitOne_2 (by subst hs2; rfl) (fun H locs hP hD hS => ?_)
  refine lv_aload_n hx hb dX9_splitOne_5 rfl (lv_at hl 0 rfl) ?_
  refine q_get (v := .ref (a 0)) C inX9_splitOne_X9 hK hP 30 rfl rfl 0 (by decide) rfl LX9_splitOne_23 rfl dX9_splitOne_6 ?_
  refine lv_aload_n hx hb dX9_splitOne_9 rfl (lv_at hl 0 rfl) ?_
  refine q_get (v := .int (s1.v 20)) C inX9_splitOne_X9 hK hP 30 rfl rfl 5 (by decide) rfl LX9_splitOne_47 rfl dX9_splitOne_10 ?_
  obtain ⟨q_, s3, hc, hB⟩ := bindI_inv hB
  refine q_goiF (va_runVN (As := [.int (s1.v 20)]) (rest := []) C (ckX7_byteAt hc _) ⟨va_cnB 1 hts gX9_splitOne_X7_byteAt_n65 rfl rfl rfl (hN _ nwM_X9_65 rfl) (hts _ LX9_splitOne_I_X7) (by decide +kernel) ⟨Nat.le_of_ble_eq_true rfl, Nat.le_of_ble_eq_true rfl⟩, hts _ LX9_splitOne_N_X7_byteAt, hts _ LX9_splitOne_E_X7_byteAt⟩ (q_preV hK hP (ci := 7) (q0 := 0) rfl rfl rfl (q_preF hN hK hP hD)) rfl rfl hl.1 rfl (lv_room (Nat.le_of_ble_eq_true rfl)) dX9_splitOne_13 ⟨Nat.le_of_ble_eq_true rfl, Nat.le_of_ble_eq_true rfl⟩) hD hS hA (fun r4 w1 H locs hw hP hD hS => ?_)
  obtain ⟨hq_, hw⟩ := hw; subst hw; subst hq_
  refine lv_istore_n (lv' := [(1, .int r4), (0, .ref (a 30))]) hx hb dX9_splitOne_16 rfl hl (by decide) rfl (fun ls hl => ?_)
  refine lv_iload_n hx hb dX9_splitOne_17 rfl (lv_at hl 0 rfl) ?_
  refine lv_iconst (v := (-1)) hx hb dX9_splitOne_18 (by decide) ?_
  refine lv_icmp_ne (tgt := 26) hx hb dX9_splitOne_19 (by decide) (fun c5 => ?_) (fun c5 => ?_)
  · have hB := if_n hB c5
    refine lv_iload_n hx hb dX9_splitOne_26 rfl (lv_at hl 0 rfl) ?_
    obtain ⟨q_, hc, hB⟩ := bindP_inv hB
    refine q_goi0 (va_runS (As := [.int r4]) (rest := []) C (ckX9_isLetter hc _) (va_cwS 1 hts gX9_splitOne_X9_isLetter rfl rfl rfl (by decide +kernel) ⟨Nat.le_of_ble_eq_true rfl, Nat.le_of_ble_eq_true rfl⟩) (q_pre0 hN hK) rfl rfl hl.1 rfl (lv_room (Nat.le_of_ble_eq_true rfl)) dX9_splitOne_27 ⟨Nat.le_of_ble_eq_true rfl, Nat.le_of_ble_eq_true rfl⟩) hP hD hS hA (fun r6 w1 H locs hw hP hS => ?_)
    subst hw
    refine lv_if_eq (tgt := 38) hx hb dX9_splitOne_30 (by decide) (fun c7 => ?_) (fun c7 => ?_)
    · have hB := if_p hB c7
      refine lv_iload_n hx hb dX9_splitOne_38 rfl (lv_at hl 0 rfl) ?_
      obtain ⟨q_, hc, hB⟩ := bindP_inv hB
      refine q_goi0 (va_runS (As := [.int r4]) (rest := []) C (ckX9_isDigit hc _) (va_cwS 1 hts gX9_splitOne_X9_isDigit rfl rfl rfl (by decide +kernel) ⟨Nat.le_of_ble_eq_true rfl, Nat.le_of_ble_eq_true rfl⟩) (q_pre0 hN hK) rfl rfl hl.1 rfl (lv_room (Nat.le_of_ble_eq_true rfl)) dX9_splitOne_39 ⟨Nat.le_of_ble_eq_true rfl, Nat.le_of_ble_eq_true rfl⟩) hP hD hS hA (fun r8 w1 H locs hw hP hS => ?_)
      subst hw
      refine lv_if_eq (tgt := 50) hx hb dX9_splitOne_42 (by decide) (fun c9 => ?_) (fun c9 => ?_)
      · have hB := if_p hB c9
        refine lv_aload_n hx hb dX9_splitOne_50 rfl (lv_at hl 1 rfl) ?_
        refine lv_dup hx hb dX9_splitOne_51 rfl ?_
        refine q_get (v := .int (s3.v 20)) C inX9_splitOne_X9 hK hP 30 rfl rfl 5 (by decide) rfl LX9_splitOne_47 rfl dX9_splitOne_52 ?_
        refine lv_iconst (v := 1) hx hb dX9_splitOne_55 (by decide) ?_
        refine lv_iadd hx hb dX9_splitOne_56 ?_
        obtain ⟨s10, hs11, hB⟩ := letS_inv hB
        refine q_put (ty := .int) (w2 := (wK cB cI cJ cZ cS a s10)) tyX9 tyX9_ok nmX9 C inX9_splitOne_X9 hK hP hD hS 30 rfl rfl 5 (by decide) rfl LX9_splitOne_47 rfl (by decide +kernel) (rfl) rfl (Nat.le_of_ble_eq_true rfl) dX9_splitOne_57 (by subst hs11; rfl) (fun H locs hP hD hS => ?_)
        refine va_ldcS hx hb hown hX.1 dX9_splitOne_60 ?_
        refine lv_iload_n hx hb dX9_splitOne_62 rfl (lv_at hl 0 rfl) ?_
        refine lv_i2c (v := (UInt32.toInt32 (Int32.toUInt32 r4 % 65536))) hx hb dX9_splitOne_63 rfl ?_
        obtain ⟨q_, hc, hB⟩ := bindP_inv hB
        refine q_goi0 (va_runV (As := [.int (UInt32.toInt32 (Int32.toUInt32 r4 % 65536))]) (rest := []) C (ckJ0_indexOf_0f7a4 hc _) (cwV 1 hts gX9_splitOne_J0_indexOf_0f7a4 rfl rfl rfl (by decide +kernel) ⟨Nat.le_of_ble_eq_true rfl, Nat.le_of_ble_eq_true rfl⟩) ⟨(q_preS0 hN hK hS hA hX).1, va_Orecv hX.2.1 hS, (q_preS0 hN hK hS hA hX).2⟩ rfl rfl hl.1 rfl (lv_room (Nat.le_of_ble_eq_true rfl)) dX9_splitOne_64 ⟨Nat.le_of_ble_eq_true rfl, Nat.le_of_ble_eq_true rfl⟩) hP hD hS hA (fun r12 w1 H locs hw hP hS => ?_)
        subst hw
        refine lv_if_lt (tgt := 74) hx hb dX9_splitOne_67 (by decide) (fun c13 => ?_) (fun c13 => ?_)
        · have hB := if_p hB c13
          refine lv_sipush (v := 303) hx hb dX9_splitOne_74 (by decide) ?_
          exact q_iret C hr hlocks hK hP hD hS (Nat.le_of_ble_eq_true rfl) (Nat.le_of_ble_eq_true rfl) dX9_splitOne_77 (by cases hB; exact ⟨rfl, rfl⟩)
        · have hB := if_n hB c13
          refine lv_iload_n hx hb dX9_splitOne_70 rfl (lv_at hl 0 rfl) ?_
          refine lv_goto (tgt := 77) hx hb dX9_splitOne_71 (by decide) ?_
          exact q_iret C hr hlocks hK hP hD hS (Nat.le_of_ble_eq_true rfl) (Nat.le_of_ble_eq_true rfl) dX9_splitOne_77 (by cases hB; exact ⟨rfl, rfl⟩)
      · have hB := if_n hB c9
        refine lv_aload_n hx hb dX9_splitOne_45 rfl (lv_at hl 1 rfl) ?_
        obtain ⟨q_, s14, hc, hB⟩ := bindI_inv hB
        refine q_goiF (va_runV (As := []) (rest := []) C (ckX9_splitDigits hc _) (cwV 0 hts gX9_splitOne_X9_splitDigits rfl rfl rfl (by decide +kernel) ⟨Nat.le_of_ble_eq_true rfl, Nat.le_of_ble_eq_true rfl⟩) (q_preV hK hP (ci := 9) (q0 := 30) rfl rfl rfl (q_preF hN hK hP hD)) rfl rfl hl.1 rfl (lv_room (Nat.le_of_ble_eq_true rfl)) dX9_splitOne_46 ⟨Nat.le_of_ble_eq_true rfl, Nat.le_of_ble_eq_true rfl⟩) hD hS hA (fun r15 w1 H locs hw hP hD hS => ?_)
        obtain ⟨hq_, hw⟩ := hw; subst hw; subst hq_
        exact q_iret C hr hlocks hK hP hD hS (Nat.le_of_ble_eq_true rfl) (Nat.le_of_ble_eq_true rfl) dX9_splitOne_49 (by cases hB; exact ⟨rfl, rfl⟩)
    · have hB := if_n hB c7
      refine lv_aload_n hx hb dX9_splitOne_33 rfl (lv_at hl 1 rfl) ?_
      obtain ⟨q_, s16, hc, hB⟩ := bindI_inv hB
      refine q_goiF (va_runV (As := []) (rest := []) C (ckX9_splitLetters hc _) (cwV 0 hts gX9_splitOne_X9_splitLetters rfl rfl rfl (by decide +kernel) ⟨Nat.le_of_ble_eq_true rfl, Nat.le_of_ble_eq_true rfl⟩) (q_preV hK hP (ci := 9) (q0 := 30) rfl rfl rfl (q_preF hN hK hP hD)) rfl rfl hl.1 rfl (lv_room (Nat.le_of_ble_eq_true rfl)) dX9_splitOne_34 ⟨Nat.le_of_ble_eq_true rfl, Nat.le_of_ble_eq_true rfl⟩) hD hS hA (fun r17 w1 H locs hw hP hD hS => ?_)
      obtain ⟨hq_, hw⟩ := hw; subst hw; subst hq_
      exact q_iret C hr hlocks hK hP hD hS (Nat.le_of_ble_eq_true rfl) (Nat.le_of_ble_eq_true rfl) dX9_splitOne_37 (by cases hB; exact ⟨rfl, rfl⟩)
  · have hB := if_p hB c5
    refine lv_sipush (v := 302) hx hb dX9_splitOne_22 (by decide) ?_
    exact q_iret C hr hlocks hK hP hD hS (Nat.le_of_ble_eq_true rfl) (Nat.le_of_ble_eq_true rfl) dX9_splitOne_25 (by cases hB; exact ⟨rfl, rfl⟩)
theorem ckX9_splitOne {l : Launch} {dC : Nat → ClassId} {dI : Nat → Nat → Nat} {cB cI cJ cZ cS : ClassId} {ak av : Nat} {a : Nat → Nat} {r : Int32} {s' : KS} {s : KS} (hB : kX9_splitOne s = some (r, s')) : CIS ak av l yX9_splitOne wsX9_splitOne ({ frames := 4, cells := 0, slots := 0, locals := 91 }) (dC, dI) (tysA cB cI cJ cZ cS) (wK cB cI cJ cZ cS a s) [.ref (a 30)] (fun x u => x = r ∧ u = (wK cB cI cJ cZ cS a s')) :=
  CIS_of (cc := cX9_splitOne) (maxL := 2) (ret := (some .int)) (by decide) rfl (Nat.le_of_ble_eq_true rfl) (bkX9_splitOne _ hB)
theorem LX10_buoy_19 : Cond.fieldLink RX10 19 "GuessFerry" "sound" "LGuessFerry$Sound;" ∈ wsX10_buoy := (List.mem_cons_of_mem _ (List.mem_append_left _ (List.mem_append_left _ (List.mem_append_left _ (List.mem_append_left _ (List.mem_append_left _ (List.mem_of_getElem? (i := 0) rfl)))))))
theorem LX10_buoy_35 : Cond.fieldLink RX10 35 "GuessFerry" "now" "LGuessFerry$Standing;" ∈ wsX10_buoy := (List.mem_cons_of_mem _ (List.mem_append_left _ (List.mem_append_left _ (List.mem_append_left _ (List.mem_append_left _ (List.mem_append_left _ (List.mem_of_getElem? (i := 1) rfl)))))))
theorem LX10_buoy_45 : Cond.fieldLink RX10 45 "GuessFerry" "past" "LGuessFerry$Past;" ∈ wsX10_buoy := (List.mem_cons_of_mem _ (List.mem_append_left _ (List.mem_append_left _ (List.mem_append_left _ (List.mem_append_left _ (List.mem_append_left _ (List.mem_of_getElem? (i := 2) rfl)))))))
theorem LX10_buoy_E_X3_remember : Cond.selects RX3 yX3_remember yX3_remember ∈ wsX10_buoy := (List.mem_cons_of_mem _ (List.mem_append_left _ (List.mem_append_left _ (List.mem_append_left _ (List.mem_append_left _ (List.mem_append_left _ (List.mem_of_getElem? (i := 13) rfl)))))))
theorem LX10_buoy_E_X5_hasWave : Cond.selects RX5 yX5_hasWave yX5_hasWave ∈ wsX10_buoy := (List.mem_cons_of_mem _ (List.mem_append_left _ (List.mem_append_left _ (List.mem_append_left _ (List.mem_append_left _ (List.mem_append_left _ (List.mem_of_getElem? (i := 5) rfl)))))))
theorem LX10_buoy_I_X3 : Cond.initialized RX3 ∈ wsX10_buoy := (List.mem_cons_of_mem _ (List.mem_append_left _ (List.mem_append_left _ (List.mem_append_left _ (List.mem_append_left _ (List.mem_append_left _ (List.mem_of_getElem? (i := 12) rfl)))))))
theorem LX10_buoy_I_X5 : Cond.initialized RX5 ∈ wsX10_buoy := (List.mem_cons_of_mem _ (List.mem_append_left _ (List.mem_append_left _ (List.mem_append_left _ (List.mem_append_left _ (List.mem_append_left _ (List.mem_of_getElem? (i := 4) rfl)))))))
theorem LX10_buoy_N_X3_remember : Cond.instanceMethod yX3_remember ∈ wsX10_buoy := (List.mem_cons_of_mem _ (List.mem_append_left _ (List.mem_append_left _ (List.mem_append_left _ (List.mem_append_left _ (List.mem_append_left _ (List.mem_of_getElem? (i := 11) rfl)))))))
theorem LX10_buoy_N_X5_hasWave : Cond.instanceMethod yX5_hasWave ∈ wsX10_buoy := (List.mem_cons_of_mem _ (List.mem_append_left _ (List.mem_append_left _ (List.mem_append_left _ (List.mem_append_left _ (List.mem_append_left _ (List.mem_of_getElem? (i := 3) rfl)))))))
theorem inX10_buoy_X10 : ∀ w ∈ u_ws RX10 TX10 9, w ∈ wsX10_buoy := fun w h => (List.mem_cons_of_mem _ (List.mem_append_left _ (List.mem_append_left _ (List.mem_append_left _ (List.mem_append_right _ h)))))
theorem inX10_buoy_X6 : ∀ w ∈ u_ws RX6 TX6 7, w ∈ wsX10_buoy := fun w h => (List.mem_cons_of_mem _ (List.mem_append_left _ (List.mem_append_left _ (List.mem_append_right _ h))))
set_option maxHeartbeats 4000000 in
set_option maxRecDepth 100000 in
theorem bkX10_buoy {l : Launch} {dC : Nat → ClassId} {dI : Nat → Nat → Nat} {cB cI cJ cZ cS : ClassId} {a b b2 c0 : Nat → Nat} {bb : Nat → Nat → Nat} {as : List Value} {r : Int32} {s' : YS} (s : YS) (x1 : Int32) (x2 : Int32) (x3 : Int32) (hB : kX10_buoy s x1 x2 x3 = some (r, s')) : BlkI l yX10_buoy wsX10_buoy ({ frames := 3, cells := 0, slots := 0, locals := 106 }) cX10_buoy 4 (some .boolean) (dC, dI) (tysA cB cI cJ cZ cS) as 0 (wY cB cI cJ cZ cS a b b2 c0 bb s) [(0, .ref (c0 0)), (1, .int x1), (2, .int x2), (3, .int x3)] [] (fun x u => x = r ∧ u = (wY cB cI cJ cZ cS a b b2 c0 bb s')) := by
  intro p e s0 m below meth c A E H locs ls hP hD hS hl
  obtain ⟨C, hr, hlocks, hA, hK, hN⟩ := id E
  obtain ⟨hx, hb, hml, hown, hts⟩ := id C
  unfold kX10_buoy at hB
  refine lv_aload_n hx hb dX10_buoy_0 rfl (lv_at hl 0 rfl) ?_
  refine q_get (v := .ref (a 2)) C inX10_buoy_X10 hK hP 0 rfl rfl 1 (by decide) rfl LX10_buoy_19 rfl dX10_buoy_1 ?_
  refine lv_iload_n hx hb dX10_buoy_4 rfl (lv_at hl 1 rfl) ?_
  obtain ⟨q_, s1, hc, hB⟩ := bindI_inv hB
  refine q_goiT (wr := ((wG cZ cS a b b2 c0 (rgP bb) (slP bb) s.x.g) ++ (wD cI b2 s.x.t) ++ (wD cI b s.x.n))) (va_runVN (As := [.int x1]) (rest := []) C (ckX5_hasWave hc _) ⟨va_cnB 1 hts gX10_buoy_X5_hasWave_n108 rfl rfl rfl (hN _ nwM_X10_108 rfl) (hts _ LX10_buoy_I_X5) (by decide +kernel) ⟨Nat.le_of_ble_eq_true rfl, Nat.le_of_ble_eq_true rfl⟩, hts _ LX10_buoy_N_X5_hasWave, hts _ LX10_buoy_E_X5_hasWave⟩ (q_preV hK hP (ci := 5) (q0 := 19) rfl rfl rfl (q_pre hN hK hP hD [17, 18, 19, 20, 21, 22, 23, 24, 25, 26, 27, 28, 29, 30, 31, 32, 33, 34, 35, 36, 37, 38, 39, 40, 41, 42, 43, 44, 45, 46, 47, 48, 49, 50, 51, 52, 53, 54, 55, 56, 57, 58, 59, 60, 61, 62, 63] rfl (by decide))) rfl rfl hl.1 rfl (lv_room (Nat.le_of_ble_eq_true rfl)) dX10_buoy_5 ⟨Nat.le_of_ble_eq_true rfl, Nat.le_of_ble_eq_true rfl⟩) hP hD hS hA [17, 18, 19, 20, 21, 22, 23, 24, 25, 26, 27, 28, 29, 30, 31, 32, 33, 34, 35, 36, 37, 38, 39, 40, 41, 42, 43, 44, 45, 46, 47, 48, 49, 50, 51, 52, 53, 54, 55, 56, 57, 58, 59, 60, 61, 62, 63] [0, 1, 2, 3, 4, 5, 6, 7, 8, 9, 10, 11, 12, 13, 14, 15, 16] rfl rfl (by decide) (by decide) (fun r2 w1 H locs hw hP hD hS => ?_)
  obtain ⟨hq_, hw⟩ := hw; subst hw; subst hq_
  obtain ⟨s3, hs4, hB⟩ := letS_inv hB
  have hP : va_P (dC, dI) vwCl (wY cB cI cJ cZ cS a b b2 c0 bb s3) H := by subst hs4; exact hP
  have hD : va_D A (wY cB cI cJ cZ cS a b b2 c0 bb s3) := by subst hs4; exact hD
  refine lv_if_eq (tgt := 18) hx hb dX10_buoy_8 (by decide) (fun c5 => ?_) (fun c5 => ?_)
  · have hB := if_p hB c5
    refine lv_iconst (v := 0) hx hb dX10_buoy_18 (by decide) ?_
    exact q_zret C hr hlocks (Or.inl rfl) hK hP hD hS (Nat.le_of_ble_eq_true rfl) (Nat.le_of_ble_eq_true rfl) dX10_buoy_19 (by cases hB; exact ⟨rfl, rfl⟩)
  · have hB := if_n hB c5
    refine lv_iload_n hx hb dX10_buoy_11 rfl (lv_at hl 2 rfl) ?_
    obtain ⟨q_, hc, hB⟩ := bindP_inv hB
    refine q_goi0 (va_runS (As := [.int x2]) (rest := []) C (ckX10_isThing hc _) (va_cwS 1 hts gX10_buoy_X10_isThing rfl rfl rfl (by decide +kernel) ⟨Nat.le_of_ble_eq_true rfl, Nat.le_of_ble_eq_true rfl⟩) (q_pre0 hN hK) rfl rfl hl.1 rfl (lv_room (Nat.le_of_ble_eq_true rfl)) dX10_buoy_12 ⟨Nat.le_of_ble_eq_true rfl, Nat.le_of_ble_eq_true rfl⟩) hP hD hS hA (fun r6 w1 H locs hw hP hS => ?_)
    subst hw
    refine lv_if_ne (tgt := 20) hx hb dX10_buoy_15 (by decide) (fun c7 => ?_) (fun c7 => ?_)
    · have hB := if_n hB c7
      refine lv_aload_n hx hb dX10_buoy_20 rfl (lv_at hl 0 rfl) ?_
      refine q_get (v := .ref (b 0)) C inX10_buoy_X10 hK hP 0 rfl rfl 3 (by decide) rfl LX10_buoy_35 rfl dX10_buoy_21 ?_
      refine q_getN (v := .ref (b 2)) C hN inX10_buoy_X6 hK hP 11 rfl rfl 1 (by decide) rfl nwF_X10_119 rfl dX10_buoy_24 ?_
      refine lv_iload_n hx hb dX10_buoy_27 rfl (lv_at hl 1 rfl) ?_
      obtain ⟨g8, hB⟩ := guard_inv hB
      refine q_iald (x := ((s3.x.n.f 1) (Int32.toNatClampNeg x1))) C hK hP 13 1 rfl rfl (vpb_in g8) dX10_buoy_28 rfl ?_
      refine lv_iload_n hx hb dX10_buoy_29 rfl (lv_at hl 2 rfl) ?_
      obtain ⟨q_, hc, hB⟩ := bindP_inv hB
      refine q_goi0 (va_runS (As := [.int ((s3.x.n.f 1) (Int32.toNatClampNeg x1)), .int x2]) (rest := []) C (ckX10_has hc _) (va_cwS 2 hts gX10_buoy_X10_has rfl rfl rfl (by decide +kernel) ⟨Nat.le_of_ble_eq_true rfl, Nat.le_of_ble_eq_true rfl⟩) (q_pre0 hN hK) rfl rfl hl.1 rfl (lv_room (Nat.le_of_ble_eq_true rfl)) dX10_buoy_30 ⟨Nat.le_of_ble_eq_true rfl, Nat.le_of_ble_eq_true rfl⟩) hP hD hS hA (fun r9 w1 H locs hw hP hS => ?_)
      subst hw
      refine lv_iload_n hx hb dX10_buoy_33 rfl (lv_at hl 3 rfl) ?_
      refine lv_icmp_ne (tgt := 39) hx hb dX10_buoy_34 (by decide) (fun c10 => ?_) (fun c10 => ?_)
      · have hB := if_n hB c10
        refine lv_aload_n hx hb dX10_buoy_39 rfl (lv_at hl 0 rfl) ?_
        refine q_get (v := .ref (c0 1)) C inX10_buoy_X10 hK hP 0 rfl rfl 5 (by decide) rfl LX10_buoy_45 rfl dX10_buoy_40 ?_
        refine lv_aload_n hx hb dX10_buoy_43 rfl (lv_at hl 0 rfl) ?_
        refine q_get (v := .ref (b 0)) C inX10_buoy_X10 hK hP 0 rfl rfl 3 (by decide) rfl LX10_buoy_35 rfl dX10_buoy_44 ?_
        obtain ⟨s11, hc, hB⟩ := bindP_inv hB
        refine q_govP (wr := ((wD cI b2 s3.x.t) ++ (wK cB cI cJ cZ cS a s3.x.k))) (va_runVN (As := [.ref (b 0)]) (rest := []) C (ckX3_remember hc _) ⟨va_cnB 1 hts gX10_buoy_X3_remember_n173 rfl rfl rfl (hN _ nwM_X10_173 rfl) (hts _ LX10_buoy_I_X3) (by decide +kernel) ⟨Nat.le_of_ble_eq_true rfl, Nat.le_of_ble_eq_true rfl⟩, hts _ LX10_buoy_N_X3_remember, hts _ LX10_buoy_E_X3_remember⟩ (q_preV hK hP (ci := 3) (q0 := 1) rfl rfl rfl (q_preP hN hK hP hD [0, 1, 2, 3, 4, 11, 12, 13, 14, 15, 16] rfl (by decide))) rfl rfl hl.1 rfl (lv_room (Nat.le_of_ble_eq_true rfl)) dX10_buoy_47 ⟨Nat.le_of_ble_eq_true rfl, Nat.le_of_ble_eq_true rfl⟩) hP hD hS hA [0, 1, 2, 3, 4, 11, 12, 13, 14, 15, 16] [5, 6, 7, 8, 9, 10, 17, 18, 19, 20, 21, 22, 23, 24, 25, 26, 27, 28, 29, 30, 31, 32, 33, 34, 35, 36, 37, 38, 39, 40, 41, 42, 43, 44, 45, 46, 47, 48, 49, 50, 51, 52, 53, 54, 55, 56, 57, 58, 59, 60, 61, 62, 63] rfl rfl (by decide) (by decide) (fun H locs hP hD hS => ?_)
        obtain ⟨s12, hs13, hB⟩ := letS_inv hB
        have hP : va_P (dC, dI) vwCl (wY cB cI cJ cZ cS a b b2 c0 bb s12) H := by subst hs13; exact hP.part [53, 54, 55, 56, 57, 0, 1, 2, 3, 4, 5, 58, 59, 60, 61, 62, 63, 6, 7, 8, 9, 10, 11, 12, 13, 14, 15, 16, 17, 18, 19, 20, 21, 22, 23, 24, 25, 26, 27, 28, 29, 30, 31, 32, 33, 34, 35, 36, 37, 38, 39, 40, 41, 42, 43, 44, 45, 46, 47, 48, 49, 50, 51, 52] rfl
        have hD : va_D A (wY cB cI cJ cZ cS a b b2 c0 bb s12) := by subst hs13; exact hD.part [53, 54, 55, 56, 57, 0, 1, 2, 3, 4, 5, 58, 59, 60, 61, 62, 63, 6, 7, 8, 9, 10, 11, 12, 13, 14, 15, 16, 17, 18, 19, 20, 21, 22, 23, 24, 25, 26, 27, 28, 29, 30, 31, 32, 33, 34, 35, 36, 37, 38, 39, 40, 41, 42, 43, 44, 45, 46, 47, 48, 49, 50, 51, 52] (by decide) rfl
        refine lv_aload_n hx hb dX10_buoy_50 rfl (lv_at hl 0 rfl) ?_
        refine q_get (v := .ref (b 0)) C inX10_buoy_X10 hK hP 0 rfl rfl 3 (by decide) rfl LX10_buoy_35 rfl dX10_buoy_51 ?_
        refine q_getN (v := .ref (b 2)) C hN inX10_buoy_X6 hK hP 11 rfl rfl 1 (by decide) rfl nwF_X10_119 rfl dX10_buoy_54 ?_
        refine lv_iload_n hx hb dX10_buoy_57 rfl (lv_at hl 1 rfl) ?_
        refine lv_dup2_11 hx hb dX10_buoy_58 rfl rfl ?_
        obtain ⟨g14, hB⟩ := guard_inv hB
        refine q_iald (x := ((s12.x.n.f 1) (Int32.toNatClampNeg x1))) C hK hP 13 1 rfl rfl (vpb_in g14) dX10_buoy_59 rfl ?_
        refine lv_iconst (v := 1) hx hb dX10_buoy_60 (by decide) ?_
        refine lv_iload_n hx hb dX10_buoy_61 rfl (lv_at hl 2 rfl) ?_
        refine lv_ishl hx hb dX10_buoy_62 ?_
        refine lv_ixor hx hb dX10_buoy_63 ?_
        obtain ⟨g15, hB⟩ := guard_inv hB
        obtain ⟨s16, hs17, hB⟩ := letS_inv hB
        refine q_iast (f2 := (upd (s12.x.n.f 1) (Int32.toNatClampNeg x1) (((s12.x.n.f 1) (Int32.toNatClampNeg x1)) ^^^ (1 <<< (x2 &&& 31))))) (w2 := (wY cB cI cJ cZ cS a b b2 c0 bb s16)) C hK hP hD hS 13 1 rfl rfl (vpb_in g15) dX10_buoy_64 rfl (by subst hs17; rfl) (fun H locs hP hD hS => ?_)
        refine lv_iconst (v := 1) hx hb dX10_buoy_65 (by decide) ?_
        exact q_zret C hr hlocks (Or.inr rfl) hK hP hD hS (Nat.le_of_ble_eq_true rfl) (Nat.le_of_ble_eq_true rfl) dX10_buoy_66 (by cases hB; exact ⟨rfl, rfl⟩)
      · have hB := if_p hB c10
        refine lv_iconst (v := 0) hx hb dX10_buoy_37 (by decide) ?_
        exact q_zret C hr hlocks (Or.inl rfl) hK hP hD hS (Nat.le_of_ble_eq_true rfl) (Nat.le_of_ble_eq_true rfl) dX10_buoy_38 (by cases hB; exact ⟨rfl, rfl⟩)
    · have hB := if_p hB c7
      refine lv_iconst (v := 0) hx hb dX10_buoy_18 (by decide) ?_
      exact q_zret C hr hlocks (Or.inl rfl) hK hP hD hS (Nat.le_of_ble_eq_true rfl) (Nat.le_of_ble_eq_true rfl) dX10_buoy_19 (by cases hB; exact ⟨rfl, rfl⟩)
theorem ckX10_buoy {l : Launch} {dC : Nat → ClassId} {dI : Nat → Nat → Nat} {cB cI cJ cZ cS : ClassId} {a b b2 c0 : Nat → Nat} {bb : Nat → Nat → Nat} {r : Int32} {s' : YS} {s : YS} {x1 : Int32} {x2 : Int32} {x3 : Int32} (hB : kX10_buoy s x1 x2 x3 = some (r, s')) : CI l yX10_buoy wsX10_buoy ({ frames := 3, cells := 0, slots := 0, locals := 106 }) (dC, dI) (tysA cB cI cJ cZ cS) (wY cB cI cJ cZ cS a b b2 c0 bb s) [.ref (c0 0), .int x1, .int x2, .int x3] (fun x u => x = r ∧ u = (wY cB cI cJ cZ cS a b b2 c0 bb s')) :=
  CI_of (cc := cX10_buoy) (maxL := 4) (ret := (some .boolean)) (by decide) rfl (Nat.le_of_ble_eq_true rfl) (bkX10_buoy _ _ _ _ hB)
theorem LX10_fetch_19 : Cond.fieldLink RX10 19 "GuessFerry" "sound" "LGuessFerry$Sound;" ∈ wsX10_fetch := (List.mem_cons_of_mem _ (List.mem_append_left _ (List.mem_append_left _ (List.mem_append_left _ (List.mem_append_left _ (List.mem_append_left _ (List.mem_of_getElem? (i := 0) rfl)))))))
theorem LX10_fetch_35 : Cond.fieldLink RX10 35 "GuessFerry" "now" "LGuessFerry$Standing;" ∈ wsX10_fetch := (List.mem_cons_of_mem _ (List.mem_append_left _ (List.mem_append_left _ (List.mem_append_left _ (List.mem_append_left _ (List.mem_append_left _ (List.mem_of_getElem? (i := 1) rfl)))))))
theorem LX10_fetch_45 : Cond.fieldLink RX10 45 "GuessFerry" "past" "LGuessFerry$Past;" ∈ wsX10_fetch := (List.mem_cons_of_mem _ (List.mem_append_left _ (List.mem_append_left _ (List.mem_append_left _ (List.mem_append_left _ (List.mem_append_left _ (List.mem_of_getElem? (i := 2) rfl)))))))
theorem LX10_fetch_E_X3_remember : Cond.selects RX3 yX3_remember yX3_remember ∈ wsX10_fetch := (List.mem_cons_of_mem _ (List.mem_append_left _ (List.mem_append_left _ (List.mem_append_left _ (List.mem_append_left _ (List.mem_append_left _ (List.mem_of_getElem? (i := 8) rfl)))))))
theorem LX10_fetch_E_X5_hasParty : Cond.selects RX5 yX5_hasParty yX5_hasParty ∈ wsX10_fetch := (List.mem_cons_of_mem _ (List.mem_append_left _ (List.mem_append_left _ (List.mem_append_left _ (List.mem_append_left _ (List.mem_append_left _ (List.mem_of_getElem? (i := 5) rfl)))))))
theorem LX10_fetch_I_X3 : Cond.initialized RX3 ∈ wsX10_fetch := (List.mem_cons_of_mem _ (List.mem_append_left _ (List.mem_append_left _ (List.mem_append_left _ (List.mem_append_left _ (List.mem_append_left _ (List.mem_of_getElem? (i := 7) rfl)))))))
theorem LX10_fetch_I_X5 : Cond.initialized RX5 ∈ wsX10_fetch := (List.mem_cons_of_mem _ (List.mem_append_left _ (List.mem_append_left _ (List.mem_append_left _ (List.mem_append_left _ (List.mem_append_left _ (List.mem_of_getElem? (i := 4) rfl)))))))
theorem LX10_fetch_N_X3_remember : Cond.instanceMethod yX3_remember ∈ wsX10_fetch := (List.mem_cons_of_mem _ (List.mem_append_left _ (List.mem_append_left _ (List.mem_append_left _ (List.mem_append_left _ (List.mem_append_left _ (List.mem_of_getElem? (i := 6) rfl)))))))
theorem LX10_fetch_N_X5_hasParty : Cond.instanceMethod yX5_hasParty ∈ wsX10_fetch := (List.mem_cons_of_mem _ (List.mem_append_left _ (List.mem_append_left _ (List.mem_append_left _ (List.mem_append_left _ (List.mem_append_left _ (List.mem_of_getElem? (i := 3) rfl)))))))
theorem inX10_fetch_X10 : ∀ w ∈ u_ws RX10 TX10 9, w ∈ wsX10_fetch := fun w h => (List.mem_cons_of_mem _ (List.mem_append_left _ (List.mem_append_left _ (List.mem_append_left _ (List.mem_append_right _ h)))))
theorem inX10_fetch_X6 : ∀ w ∈ u_ws RX6 TX6 7, w ∈ wsX10_fetch := fun w h => (List.mem_cons_of_mem _ (List.mem_append_left _ (List.mem_append_left _ (List.mem_append_right _ h))))
set_option maxHeartbeats 4000000 in
set_option maxRecDepth 100000 in
theorem bkX10_fetch {l : Launch} {dC : Nat → ClassId} {dI : Nat → Nat → Nat} {cB cI cJ cZ cS : ClassId} {a b b2 c0 : Nat → Nat} {bb : Nat → Nat → Nat} {as : List Value} {r : Int32} {s' : YS} (s : YS) (x1 : Int32) (hB : kX10_fetch s x1 = some (r, s')) : BlkI l yX10_fetch wsX10_fetch ({ frames := 3, cells := 0, slots := 0, locals := 106 }) cX10_fetch 2 (some .boolean) (dC, dI) (tysA cB cI cJ cZ cS) as 0 (wY cB cI cJ cZ cS a b b2 c0 bb s) [(0, .ref (c0 0)), (1, .int x1)] [] (fun x u => x = r ∧ u = (wY cB cI cJ cZ cS a b b2 c0 bb s')) := by
  intro p e s0 m below meth c A E H locs ls hP hD hS hl
  obtain ⟨C, hr, hlocks, hA, hK, hN⟩ := id E
  obtain ⟨hx, hb, hml, hown, hts⟩ := id C
  unfold kX10_fetch at hB
  refine lv_aload_n hx hb dX10_fetch_0 rfl (lv_at hl 0 rfl) ?_
  refine q_get (v := .ref (a 2)) C inX10_fetch_X10 hK hP 0 rfl rfl 1 (by decide) rfl LX10_fetch_19 rfl dX10_fetch_1 ?_
  refine lv_iload_n hx hb dX10_fetch_4 rfl (lv_at hl 1 rfl) ?_
  obtain ⟨q_, s1, hc, hB⟩ := bindI_inv hB
  refine q_goiT (wr := ((wG cZ cS a b b2 c0 (rgP bb) (slP bb) s.x.g) ++ (wD cI b2 s.x.t) ++ (wD cI b s.x.n))) (va_runVN (As := [.int x1]) (rest := []) C (ckX5_hasParty hc _) ⟨va_cnB 1 hts gX10_fetch_X5_hasParty_n138 rfl rfl rfl (hN _ nwM_X10_138 rfl) (hts _ LX10_fetch_I_X5) (by decide +kernel) ⟨Nat.le_of_ble_eq_true rfl, Nat.le_of_ble_eq_true rfl⟩, hts _ LX10_fetch_N_X5_hasParty, hts _ LX10_fetch_E_X5_hasParty⟩ (q_preV hK hP (ci := 5) (q0 := 19) rfl rfl rfl (q_pre hN hK hP hD [17, 18, 19, 20, 21, 22, 23, 24, 25, 26, 27, 28, 29, 30, 31, 32, 33, 34, 35, 36, 37, 38, 39, 40, 41, 42, 43, 44, 45, 46, 47, 48, 49, 50, 51, 52, 53, 54, 55, 56, 57, 58, 59, 60, 61, 62, 63] rfl (by decide))) rfl rfl hl.1 rfl (lv_room (Nat.le_of_ble_eq_true rfl)) dX10_fetch_5 ⟨Nat.le_of_ble_eq_true rfl, Nat.le_of_ble_eq_true rfl⟩) hP hD hS hA [17, 18, 19, 20, 21, 22, 23, 24, 25, 26, 27, 28, 29, 30, 31, 32, 33, 34, 35, 36, 37, 38, 39, 40, 41, 42, 43, 44, 45, 46, 47, 48, 49, 50, 51, 52, 53, 54, 55, 56, 57, 58, 59, 60, 61, 62, 63] [0, 1, 2, 3, 4, 5, 6, 7, 8, 9, 10, 11, 12, 13, 14, 15, 16] rfl rfl (by decide) (by decide) (fun r2 w1 H locs hw hP hD hS => ?_)
  obtain ⟨hq_, hw⟩ := hw; subst hw; subst hq_
  obtain ⟨s3, hs4, hB⟩ := letS_inv hB
  have hP : va_P (dC, dI) vwCl (wY cB cI cJ cZ cS a b b2 c0 bb s3) H := by subst hs4; exact hP
  have hD : va_D A (wY cB cI cJ cZ cS a b b2 c0 bb s3) := by subst hs4; exact hD
  refine lv_if_eq (tgt := 23) hx hb dX10_fetch_8 (by decide) (fun c5 => ?_) (fun c5 => ?_)
  · have hB := if_p hB c5
    refine lv_iconst (v := 0) hx hb dX10_fetch_23 (by decide) ?_
    exact q_zret C hr hlocks (Or.inl rfl) hK hP hD hS (Nat.le_of_ble_eq_true rfl) (Nat.le_of_ble_eq_true rfl) dX10_fetch_24 (by cases hB; exact ⟨rfl, rfl⟩)
  · have hB := if_n hB c5
    refine lv_aload_n hx hb dX10_fetch_11 rfl (lv_at hl 0 rfl) ?_
    refine q_get (v := .ref (b 0)) C inX10_fetch_X10 hK hP 0 rfl rfl 3 (by decide) rfl LX10_fetch_35 rfl dX10_fetch_12 ?_
    refine q_getN (v := .ref (b 4)) C hN inX10_fetch_X6 hK hP 11 rfl rfl 3 (by decide) rfl nwF_X10_147 rfl dX10_fetch_15 ?_
    refine lv_iload_n hx hb dX10_fetch_18 rfl (lv_at hl 1 rfl) ?_
    obtain ⟨g6, hB⟩ := guard_inv hB
    refine q_iald (x := ((s3.x.n.f 3) (Int32.toNatClampNeg x1))) C hK hP 15 1 rfl rfl (vpb_in g6) dX10_fetch_19 rfl ?_
    refine lv_if_ne (tgt := 25) hx hb dX10_fetch_20 (by decide) (fun c7 => ?_) (fun c7 => ?_)
    · have hB := if_n hB c7
      refine lv_aload_n hx hb dX10_fetch_25 rfl (lv_at hl 0 rfl) ?_
      refine q_get (v := .ref (c0 1)) C inX10_fetch_X10 hK hP 0 rfl rfl 5 (by decide) rfl LX10_fetch_45 rfl dX10_fetch_26 ?_
      refine lv_aload_n hx hb dX10_fetch_29 rfl (lv_at hl 0 rfl) ?_
      refine q_get (v := .ref (b 0)) C inX10_fetch_X10 hK hP 0 rfl rfl 3 (by decide) rfl LX10_fetch_35 rfl dX10_fetch_30 ?_
      obtain ⟨s8, hc, hB⟩ := bindP_inv hB
      refine q_govP (wr := ((wD cI b2 s3.x.t) ++ (wK cB cI cJ cZ cS a s3.x.k))) (va_runVN (As := [.ref (b 0)]) (rest := []) C (ckX3_remember hc _) ⟨va_cnB 1 hts gX10_fetch_X3_remember_n173 rfl rfl rfl (hN _ nwM_X10_173 rfl) (hts _ LX10_fetch_I_X3) (by decide +kernel) ⟨Nat.le_of_ble_eq_true rfl, Nat.le_of_ble_eq_true rfl⟩, hts _ LX10_fetch_N_X3_remember, hts _ LX10_fetch_E_X3_remember⟩ (q_preV hK hP (ci := 3) (q0 := 1) rfl rfl rfl (q_preP hN hK hP hD [0, 1, 2, 3, 4, 11, 12, 13, 14, 15, 16] rfl (by decide))) rfl rfl hl.1 rfl (lv_room (Nat.le_of_ble_eq_true rfl)) dX10_fetch_33 ⟨Nat.le_of_ble_eq_true rfl, Nat.le_of_ble_eq_true rfl⟩) hP hD hS hA [0, 1, 2, 3, 4, 11, 12, 13, 14, 15, 16] [5, 6, 7, 8, 9, 10, 17, 18, 19, 20, 21, 22, 23, 24, 25, 26, 27, 28, 29, 30, 31, 32, 33, 34, 35, 36, 37, 38, 39, 40, 41, 42, 43, 44, 45, 46, 47, 48, 49, 50, 51, 52, 53, 54, 55, 56, 57, 58, 59, 60, 61, 62, 63] rfl rfl (by decide) (by decide) (fun H locs hP hD hS => ?_)
      obtain ⟨s9, hs10, hB⟩ := letS_inv hB
      have hP : va_P (dC, dI) vwCl (wY cB cI cJ cZ cS a b b2 c0 bb s9) H := by subst hs10; exact hP.part [53, 54, 55, 56, 57, 0, 1, 2, 3, 4, 5, 58, 59, 60, 61, 62, 63, 6, 7, 8, 9, 10, 11, 12, 13, 14, 15, 16, 17, 18, 19, 20, 21, 22, 23, 24, 25, 26, 27, 28, 29, 30, 31, 32, 33, 34, 35, 36, 37, 38, 39, 40, 41, 42, 43, 44, 45, 46, 47, 48, 49, 50, 51, 52] rfl
      have hD : va_D A (wY cB cI cJ cZ cS a b b2 c0 bb s9) := by subst hs10; exact hD.part [53, 54, 55, 56, 57, 0, 1, 2, 3, 4, 5, 58, 59, 60, 61, 62, 63, 6, 7, 8, 9, 10, 11, 12, 13, 14, 15, 16, 17, 18, 19, 20, 21, 22, 23, 24, 25, 26, 27, 28, 29, 30, 31, 32, 33, 34, 35, 36, 37, 38, 39, 40, 41, 42, 43, 44, 45, 46, 47, 48, 49, 50, 51, 52] (by decide) rfl
      refine lv_aload_n hx hb dX10_fetch_36 rfl (lv_at hl 0 rfl) ?_
      refine q_get (v := .ref (b 0)) C inX10_fetch_X10 hK hP 0 rfl rfl 3 (by decide) rfl LX10_fetch_35 rfl dX10_fetch_37 ?_
      refine q_getN (v := .ref (b 4)) C hN inX10_fetch_X6 hK hP 11 rfl rfl 3 (by decide) rfl nwF_X10_147 rfl dX10_fetch_40 ?_
      refine lv_iload_n hx hb dX10_fetch_43 rfl (lv_at hl 1 rfl) ?_
      refine lv_iconst (v := 0) hx hb dX10_fetch_44 (by decide) ?_
      obtain ⟨g11, hB⟩ := guard_inv hB
      obtain ⟨s12, hs13, hB⟩ := letS_inv hB
      refine q_iast (f2 := (upd (s9.x.n.f 3) (Int32.toNatClampNeg x1) 0)) (w2 := (wY cB cI cJ cZ cS a b b2 c0 bb s12)) C hK hP hD hS 15 1 rfl rfl (vpb_in g11) dX10_fetch_45 rfl (by subst hs13; rfl) (fun H locs hP hD hS => ?_)
      refine lv_iconst (v := 1) hx hb dX10_fetch_46 (by decide) ?_
      exact q_zret C hr hlocks (Or.inr rfl) hK hP hD hS (Nat.le_of_ble_eq_true rfl) (Nat.le_of_ble_eq_true rfl) dX10_fetch_47 (by cases hB; exact ⟨rfl, rfl⟩)
    · have hB := if_p hB c7
      refine lv_iconst (v := 0) hx hb dX10_fetch_23 (by decide) ?_
      exact q_zret C hr hlocks (Or.inl rfl) hK hP hD hS (Nat.le_of_ble_eq_true rfl) (Nat.le_of_ble_eq_true rfl) dX10_fetch_24 (by cases hB; exact ⟨rfl, rfl⟩)
theorem ckX10_fetch {l : Launch} {dC : Nat → ClassId} {dI : Nat → Nat → Nat} {cB cI cJ cZ cS : ClassId} {a b b2 c0 : Nat → Nat} {bb : Nat → Nat → Nat} {r : Int32} {s' : YS} {s : YS} {x1 : Int32} (hB : kX10_fetch s x1 = some (r, s')) : CI l yX10_fetch wsX10_fetch ({ frames := 3, cells := 0, slots := 0, locals := 106 }) (dC, dI) (tysA cB cI cJ cZ cS) (wY cB cI cJ cZ cS a b b2 c0 bb s) [.ref (c0 0), .int x1] (fun x u => x = r ∧ u = (wY cB cI cJ cZ cS a b b2 c0 bb s')) :=
  CI_of (cc := cX10_fetch) (maxL := 2) (ret := (some .boolean)) (by decide) rfl (Nat.le_of_ble_eq_true rfl) (bkX10_fetch _ _ hB)
theorem LX10_undo_35 : Cond.fieldLink RX10 35 "GuessFerry" "now" "LGuessFerry$Standing;" ∈ wsX10_undo := (List.mem_cons_of_mem _ (List.mem_append_left _ (List.mem_append_left _ (List.mem_append_left _ (List.mem_append_left _ (List.mem_of_getElem? (i := 1) rfl))))))
theorem LX10_undo_45 : Cond.fieldLink RX10 45 "GuessFerry" "past" "LGuessFerry$Past;" ∈ wsX10_undo := (List.mem_cons_of_mem _ (List.mem_append_left _ (List.mem_append_left _ (List.mem_append_left _ (List.mem_append_left _ (List.mem_of_getElem? (i := 0) rfl))))))
theorem LX10_undo_E_X3_takeBack : Cond.selects RX3 yX3_takeBack yX3_takeBack ∈ wsX10_undo := (List.mem_cons_of_mem _ (List.mem_append_left _ (List.mem_append_left _ (List.mem_append_left _ (List.mem_append_left _ (List.mem_of_getElem? (i := 4) rfl))))))
theorem LX10_undo_I_X3 : Cond.initialized RX3 ∈ wsX10_undo := (List.mem_cons_of_mem _ (List.mem_append_left _ (List.mem_append_left _ (List.mem_append_left _ (List.mem_append_left _ (List.mem_of_getElem? (i := 3) rfl))))))
theorem LX10_undo_N_X3_takeBack : Cond.instanceMethod yX3_takeBack ∈ wsX10_undo := (List.mem_cons_of_mem _ (List.mem_append_left _ (List.mem_append_left _ (List.mem_append_left _ (List.mem_append_left _ (List.mem_of_getElem? (i := 2) rfl))))))
theorem inX10_undo_X10 : ∀ w ∈ u_ws RX10 TX10 9, w ∈ wsX10_undo := fun w h => (List.mem_cons_of_mem _ (List.mem_append_left _ (List.mem_append_left _ (List.mem_append_right _ h))))
set_option maxHeartbeats 4000000 in
set_option maxRecDepth 100000 in
theorem bkX10_undo {l : Launch} {dC : Nat → ClassId} {dI : Nat → Nat → Nat} {cB cI cJ cZ cS : ClassId} {a b b2 c0 : Nat → Nat} {bb : Nat → Nat → Nat} {as : List Value} {r : Int32} {s' : YS} (s : YS) (hB : kX10_undo s = some (r, s')) : BlkI l yX10_undo wsX10_undo ({ frames := 3, cells := 0, slots := 0, locals := 106 }) cX10_undo 1 (some .boolean) (dC, dI) (tysA cB cI cJ cZ cS) as 0 (wY cB cI cJ cZ cS a b b2 c0 bb s) [(0, .ref (c0 0))] [] (fun x u => x = r ∧ u = (wY cB cI cJ cZ cS a b b2 c0 bb s')) := by
  intro p e s0 m below meth c A E H locs ls hP hD hS hl
  obtain ⟨C, hr, hlocks, hA, hK, hN⟩ := id E
  obtain ⟨hx, hb, hml, hown, hts⟩ := id C
  unfold kX10_undo at hB
  refine lv_aload_n hx hb dX10_undo_0 rfl (lv_at hl 0 rfl) ?_
  refine q_get (v := .ref (c0 1)) C inX10_undo_X10 hK hP 0 rfl rfl 5 (by decide) rfl LX10_undo_45 rfl dX10_undo_1 ?_
  refine lv_aload_n hx hb dX10_undo_4 rfl (lv_at hl 0 rfl) ?_
  refine q_get (v := .ref (b 0)) C inX10_undo_X10 hK hP 0 rfl rfl 3 (by decide) rfl LX10_undo_35 rfl dX10_undo_5 ?_
  obtain ⟨q_, s1, hc, hB⟩ := bindI_inv hB
  refine q_goiP (wr := ((wD cI b2 s.x.t) ++ (wK cB cI cJ cZ cS a s.x.k))) (va_runVN (As := [.ref (b 0)]) (rest := []) C (ckX3_takeBack hc _) ⟨va_cnB 1 hts gX10_undo_X3_takeBack_n192 rfl rfl rfl (hN _ nwM_X10_192 rfl) (hts _ LX10_undo_I_X3) (by decide +kernel) ⟨Nat.le_of_ble_eq_true rfl, Nat.le_of_ble_eq_true rfl⟩, hts _ LX10_undo_N_X3_takeBack, hts _ LX10_undo_E_X3_takeBack⟩ (q_preV hK hP (ci := 3) (q0 := 1) rfl rfl rfl (q_preP hN hK hP hD [0, 1, 2, 3, 4, 11, 12, 13, 14, 15, 16] rfl (by decide))) rfl rfl hl.1 rfl (lv_room (Nat.le_of_ble_eq_true rfl)) dX10_undo_8 ⟨Nat.le_of_ble_eq_true rfl, Nat.le_of_ble_eq_true rfl⟩) hP hD hS hA [0, 1, 2, 3, 4, 11, 12, 13, 14, 15, 16] [5, 6, 7, 8, 9, 10, 17, 18, 19, 20, 21, 22, 23, 24, 25, 26, 27, 28, 29, 30, 31, 32, 33, 34, 35, 36, 37, 38, 39, 40, 41, 42, 43, 44, 45, 46, 47, 48, 49, 50, 51, 52, 53, 54, 55, 56, 57, 58, 59, 60, 61, 62, 63] rfl rfl (by decide) (by decide) (fun H locs hP hD hS => ?_)
  obtain ⟨r2, hr_⟩ : ∃ z : Int32, z = q_ := ⟨_, rfl⟩; subst hr_
  obtain ⟨s3, hs4, hB⟩ := letS_inv hB
  have hP : va_P (dC, dI) vwCl (wY cB cI cJ cZ cS a b b2 c0 bb s3) H := by subst hs4; exact hP.part [53, 54, 55, 56, 57, 0, 1, 2, 3, 4, 5, 58, 59, 60, 61, 62, 63, 6, 7, 8, 9, 10, 11, 12, 13, 14, 15, 16, 17, 18, 19, 20, 21, 22, 23, 24, 25, 26, 27, 28, 29, 30, 31, 32, 33, 34, 35, 36, 37, 38, 39, 40, 41, 42, 43, 44, 45, 46, 47, 48, 49, 50, 51, 52] rfl
  have hD : va_D A (wY cB cI cJ cZ cS a b b2 c0 bb s3) := by subst hs4; exact hD.part [53, 54, 55, 56, 57, 0, 1, 2, 3, 4, 5, 58, 59, 60, 61, 62, 63, 6, 7, 8, 9, 10, 11, 12, 13, 14, 15, 16, 17, 18, 19, 20, 21, 22, 23, 24, 25, 26, 27, 28, 29, 30, 31, 32, 33, 34, 35, 36, 37, 38, 39, 40, 41, 42, 43, 44, 45, 46, 47, 48, 49, 50, 51, 52] (by decide) rfl
  obtain ⟨z5, hB⟩ := guard_inv hB
  exact q_zret C hr hlocks z5 hK hP hD hS (Nat.le_of_ble_eq_true rfl) (Nat.le_of_ble_eq_true rfl) dX10_undo_11 (by cases hB; exact ⟨rfl, rfl⟩)
theorem ckX10_undo {l : Launch} {dC : Nat → ClassId} {dI : Nat → Nat → Nat} {cB cI cJ cZ cS : ClassId} {a b b2 c0 : Nat → Nat} {bb : Nat → Nat → Nat} {r : Int32} {s' : YS} {s : YS} (hB : kX10_undo s = some (r, s')) : CI l yX10_undo wsX10_undo ({ frames := 3, cells := 0, slots := 0, locals := 106 }) (dC, dI) (tysA cB cI cJ cZ cS) (wY cB cI cJ cZ cS a b b2 c0 bb s) [.ref (c0 0)] (fun x u => x = r ∧ u = (wY cB cI cJ cZ cS a b b2 c0 bb s')) :=
  CI_of (cc := cX10_undo) (maxL := 1) (ret := (some .boolean)) (by decide) rfl (Nat.le_of_ble_eq_true rfl) (bkX10_undo _ hB)
theorem LX10_hold_35 : Cond.fieldLink RX10 35 "GuessFerry" "now" "LGuessFerry$Standing;" ∈ wsX10_hold := (List.mem_cons_of_mem _ (List.mem_append_left _ (List.mem_append_left _ (List.mem_append_left _ (List.mem_append_left _ (List.mem_of_getElem? (i := 1) rfl))))))
theorem LX10_hold_45 : Cond.fieldLink RX10 45 "GuessFerry" "past" "LGuessFerry$Past;" ∈ wsX10_hold := (List.mem_cons_of_mem _ (List.mem_append_left _ (List.mem_append_left _ (List.mem_append_left _ (List.mem_append_left _ (List.mem_of_getElem? (i := 0) rfl))))))
theorem LX10_hold_E_X3_keepIn : Cond.selects RX3 yX3_keepIn yX3_keepIn ∈ wsX10_hold := (List.mem_cons_of_mem _ (List.mem_append_left _ (List.mem_append_left _ (List.mem_append_left _ (List.mem_append_left _ (List.mem_of_getElem? (i := 4) rfl))))))
theorem LX10_hold_I_X3 : Cond.initialized RX3 ∈ wsX10_hold := (List.mem_cons_of_mem _ (List.mem_append_left _ (List.mem_append_left _ (List.mem_append_left _ (List.mem_append_left _ (List.mem_of_getElem? (i := 3) rfl))))))
theorem LX10_hold_N_X3_keepIn : Cond.instanceMethod yX3_keepIn ∈ wsX10_hold := (List.mem_cons_of_mem _ (List.mem_append_left _ (List.mem_append_left _ (List.mem_append_left _ (List.mem_append_left _ (List.mem_of_getElem? (i := 2) rfl))))))
theorem inX10_hold_X10 : ∀ w ∈ u_ws RX10 TX10 9, w ∈ wsX10_hold := fun w h => (List.mem_cons_of_mem _ (List.mem_append_left _ (List.mem_append_left _ (List.mem_append_right _ h))))
set_option maxHeartbeats 4000000 in
set_option maxRecDepth 100000 in
theorem bkX10_hold {l : Launch} {dC : Nat → ClassId} {dI : Nat → Nat → Nat} {cB cI cJ cZ cS : ClassId} {a b b2 c0 : Nat → Nat} {bb : Nat → Nat → Nat} {as : List Value} {r : Int32} {s' : YS} (s : YS) (x1 : Int32) (hB : kX10_hold s x1 = some (r, s')) : BlkI l yX10_hold wsX10_hold ({ frames := 3, cells := 0, slots := 0, locals := 107 }) cX10_hold 2 (some .boolean) (dC, dI) (tysA cB cI cJ cZ cS) as 0 (wY cB cI cJ cZ cS a b b2 c0 bb s) [(0, .ref (c0 0)), (1, .int x1)] [] (fun x u => x = r ∧ u = (wY cB cI cJ cZ cS a b b2 c0 bb s')) := by
  intro p e s0 m below meth c A E H locs ls hP hD hS hl
  obtain ⟨C, hr, hlocks, hA, hK, hN⟩ := id E
  obtain ⟨hx, hb, hml, hown, hts⟩ := id C
  unfold kX10_hold at hB
  refine lv_aload_n hx hb dX10_hold_0 rfl (lv_at hl 0 rfl) ?_
  refine q_get (v := .ref (c0 1)) C inX10_hold_X10 hK hP 0 rfl rfl 5 (by decide) rfl LX10_hold_45 rfl dX10_hold_1 ?_
  refine lv_iload_n hx hb dX10_hold_4 rfl (lv_at hl 1 rfl) ?_
  refine lv_aload_n hx hb dX10_hold_5 rfl (lv_at hl 0 rfl) ?_
  refine q_get (v := .ref (b 0)) C inX10_hold_X10 hK hP 0 rfl rfl 3 (by decide) rfl LX10_hold_35 rfl dX10_hold_6 ?_
  obtain ⟨q_, s1, hc, hB⟩ := bindI_inv hB
  refine q_goiP (wr := ((wD cI b2 s.x.t) ++ (wK cB cI cJ cZ cS a s.x.k))) (va_runVN (As := [.int x1, .ref (b 0)]) (rest := []) C (ckX3_keepIn hc _) ⟨va_cnB 2 hts gX10_hold_X3_keepIn_n282 rfl rfl rfl (hN _ nwM_X10_282 rfl) (hts _ LX10_hold_I_X3) (by decide +kernel) ⟨Nat.le_of_ble_eq_true rfl, Nat.le_of_ble_eq_true rfl⟩, hts _ LX10_hold_N_X3_keepIn, hts _ LX10_hold_E_X3_keepIn⟩ (q_preV hK hP (ci := 3) (q0 := 1) rfl rfl rfl (q_preP hN hK hP hD [0, 1, 2, 3, 4, 11, 12, 13, 14, 15, 16] rfl (by decide))) rfl rfl hl.1 rfl (lv_room (Nat.le_of_ble_eq_true rfl)) dX10_hold_9 ⟨Nat.le_of_ble_eq_true rfl, Nat.le_of_ble_eq_true rfl⟩) hP hD hS hA [0, 1, 2, 3, 4, 11, 12, 13, 14, 15, 16] [5, 6, 7, 8, 9, 10, 17, 18, 19, 20, 21, 22, 23, 24, 25, 26, 27, 28, 29, 30, 31, 32, 33, 34, 35, 36, 37, 38, 39, 40, 41, 42, 43, 44, 45, 46, 47, 48, 49, 50, 51, 52, 53, 54, 55, 56, 57, 58, 59, 60, 61, 62, 63] rfl rfl (by decide) (by decide) (fun H locs hP hD hS => ?_)
  obtain ⟨r2, hr_⟩ : ∃ z : Int32, z = q_ := ⟨_, rfl⟩; subst hr_
  obtain ⟨s3, hs4, hB⟩ := letS_inv hB
  have hP : va_P (dC, dI) vwCl (wY cB cI cJ cZ cS a b b2 c0 bb s3) H := by subst hs4; exact hP.part [53, 54, 55, 56, 57, 0, 1, 2, 3, 4, 5, 58, 59, 60, 61, 62, 63, 6, 7, 8, 9, 10, 11, 12, 13, 14, 15, 16, 17, 18, 19, 20, 21, 22, 23, 24, 25, 26, 27, 28, 29, 30, 31, 32, 33, 34, 35, 36, 37, 38, 39, 40, 41, 42, 43, 44, 45, 46, 47, 48, 49, 50, 51, 52] rfl
  have hD : va_D A (wY cB cI cJ cZ cS a b b2 c0 bb s3) := by subst hs4; exact hD.part [53, 54, 55, 56, 57, 0, 1, 2, 3, 4, 5, 58, 59, 60, 61, 62, 63, 6, 7, 8, 9, 10, 11, 12, 13, 14, 15, 16, 17, 18, 19, 20, 21, 22, 23, 24, 25, 26, 27, 28, 29, 30, 31, 32, 33, 34, 35, 36, 37, 38, 39, 40, 41, 42, 43, 44, 45, 46, 47, 48, 49, 50, 51, 52] (by decide) rfl
  obtain ⟨z5, hB⟩ := guard_inv hB
  exact q_zret C hr hlocks z5 hK hP hD hS (Nat.le_of_ble_eq_true rfl) (Nat.le_of_ble_eq_true rfl) dX10_hold_12 (by cases hB; exact ⟨rfl, rfl⟩)
theorem ckX10_hold {l : Launch} {dC : Nat → ClassId} {dI : Nat → Nat → Nat} {cB cI cJ cZ cS : ClassId} {a b b2 c0 : Nat → Nat} {bb : Nat → Nat → Nat} {r : Int32} {s' : YS} {s : YS} {x1 : Int32} (hB : kX10_hold s x1 = some (r, s')) : CI l yX10_hold wsX10_hold ({ frames := 3, cells := 0, slots := 0, locals := 107 }) (dC, dI) (tysA cB cI cJ cZ cS) (wY cB cI cJ cZ cS a b b2 c0 bb s) [.ref (c0 0), .int x1] (fun x u => x = r ∧ u = (wY cB cI cJ cZ cS a b b2 c0 bb s')) :=
  CI_of (cc := cX10_hold) (maxL := 2) (ret := (some .boolean)) (by decide) rfl (Nat.le_of_ble_eq_true rfl) (bkX10_hold _ _ hB)
theorem LX10_restore_35 : Cond.fieldLink RX10 35 "GuessFerry" "now" "LGuessFerry$Standing;" ∈ wsX10_restore := (List.mem_cons_of_mem _ (List.mem_append_left _ (List.mem_append_left _ (List.mem_append_left _ (List.mem_append_left _ (List.mem_of_getElem? (i := 1) rfl))))))
theorem LX10_restore_45 : Cond.fieldLink RX10 45 "GuessFerry" "past" "LGuessFerry$Past;" ∈ wsX10_restore := (List.mem_cons_of_mem _ (List.mem_append_left _ (List.mem_append_left _ (List.mem_append_left _ (List.mem_append_left _ (List.mem_of_getElem? (i := 0) rfl))))))
theorem LX10_restore_E_X3_goOnFrom : Cond.selects RX3 yX3_goOnFrom yX3_goOnFrom ∈ wsX10_restore := (List.mem_cons_of_mem _ (List.mem_append_left _ (List.mem_append_left _ (List.mem_append_left _ (List.mem_append_left _ (List.mem_of_getElem? (i := 4) rfl))))))
theorem LX10_restore_I_X3 : Cond.initialized RX3 ∈ wsX10_restore := (List.mem_cons_of_mem _ (List.mem_append_left _ (List.mem_append_left _ (List.mem_append_left _ (List.mem_append_left _ (List.mem_of_getElem? (i := 3) rfl))))))
theorem LX10_restore_N_X3_goOnFrom : Cond.instanceMethod yX3_goOnFrom ∈ wsX10_restore := (List.mem_cons_of_mem _ (List.mem_append_left _ (List.mem_append_left _ (List.mem_append_left _ (List.mem_append_left _ (List.mem_of_getElem? (i := 2) rfl))))))
theorem inX10_restore_X10 : ∀ w ∈ u_ws RX10 TX10 9, w ∈ wsX10_restore := fun w h => (List.mem_cons_of_mem _ (List.mem_append_left _ (List.mem_append_left _ (List.mem_append_right _ h))))
set_option maxHeartbeats 4000000 in
set_option maxRecDepth 100000 in
theorem bkX10_restore {l : Launch} {dC : Nat → ClassId} {dI : Nat → Nat → Nat} {cB cI cJ cZ cS : ClassId} {a b b2 c0 : Nat → Nat} {bb : Nat → Nat → Nat} {as : List Value} {r : Int32} {s' : YS} (s : YS) (x1 : Int32) (hB : kX10_restore s x1 = some (r, s')) : BlkI l yX10_restore wsX10_restore ({ frames := 3, cells := 0, slots := 0, locals := 107 }) cX10_restore 2 (some .boolean) (dC, dI) (tysA cB cI cJ cZ cS) as 0 (wY cB cI cJ cZ cS a b b2 c0 bb s) [(0, .ref (c0 0)), (1, .int x1)] [] (fun x u => x = r ∧ u = (wY cB cI cJ cZ cS a b b2 c0 bb s')) := by
  intro p e s0 m below meth c A E H locs ls hP hD hS hl
  obtain ⟨C, hr, hlocks, hA, hK, hN⟩ := id E
  obtain ⟨hx, hb, hml, hown, hts⟩ := id C
  unfold kX10_restore at hB
  refine lv_aload_n hx hb dX10_restore_0 rfl (lv_at hl 0 rfl) ?_
  refine q_get (v := .ref (c0 1)) C inX10_restore_X10 hK hP 0 rfl rfl 5 (by decide) rfl LX10_restore_45 rfl dX10_restore_1 ?_
  refine lv_iload_n hx hb dX10_restore_4 rfl (lv_at hl 1 rfl) ?_
  refine lv_aload_n hx hb dX10_restore_5 rfl (lv_at hl 0 rfl) ?_
  refine q_get (v := .ref (b 0)) C inX10_restore_X10 hK hP 0 rfl rfl 3 (by decide) rfl LX10_restore_35 rfl dX10_restore_6 ?_
  obtain ⟨q_, s1, hc, hB⟩ := bindI_inv hB
  refine q_goiP (wr := ((wD cI b2 s.x.t) ++ (wK cB cI cJ cZ cS a s.x.k))) (va_runVN (As := [.int x1, .ref (b 0)]) (rest := []) C (ckX3_goOnFrom hc _) ⟨va_cnB 2 hts gX10_restore_X3_goOnFrom_n286 rfl rfl rfl (hN _ nwM_X10_286 rfl) (hts _ LX10_restore_I_X3) (by decide +kernel) ⟨Nat.le_of_ble_eq_true rfl, Nat.le_of_ble_eq_true rfl⟩, hts _ LX10_restore_N_X3_goOnFrom, hts _ LX10_restore_E_X3_goOnFrom⟩ (q_preV hK hP (ci := 3) (q0 := 1) rfl rfl rfl (q_preP hN hK hP hD [0, 1, 2, 3, 4, 11, 12, 13, 14, 15, 16] rfl (by decide))) rfl rfl hl.1 rfl (lv_room (Nat.le_of_ble_eq_true rfl)) dX10_restore_9 ⟨Nat.le_of_ble_eq_true rfl, Nat.le_of_ble_eq_true rfl⟩) hP hD hS hA [0, 1, 2, 3, 4, 11, 12, 13, 14, 15, 16] [5, 6, 7, 8, 9, 10, 17, 18, 19, 20, 21, 22, 23, 24, 25, 26, 27, 28, 29, 30, 31, 32, 33, 34, 35, 36, 37, 38, 39, 40, 41, 42, 43, 44, 45, 46, 47, 48, 49, 50, 51, 52, 53, 54, 55, 56, 57, 58, 59, 60, 61, 62, 63] rfl rfl (by decide) (by decide) (fun H locs hP hD hS => ?_)
  obtain ⟨r2, hr_⟩ : ∃ z : Int32, z = q_ := ⟨_, rfl⟩; subst hr_
  obtain ⟨s3, hs4, hB⟩ := letS_inv hB
  have hP : va_P (dC, dI) vwCl (wY cB cI cJ cZ cS a b b2 c0 bb s3) H := by subst hs4; exact hP.part [53, 54, 55, 56, 57, 0, 1, 2, 3, 4, 5, 58, 59, 60, 61, 62, 63, 6, 7, 8, 9, 10, 11, 12, 13, 14, 15, 16, 17, 18, 19, 20, 21, 22, 23, 24, 25, 26, 27, 28, 29, 30, 31, 32, 33, 34, 35, 36, 37, 38, 39, 40, 41, 42, 43, 44, 45, 46, 47, 48, 49, 50, 51, 52] rfl
  have hD : va_D A (wY cB cI cJ cZ cS a b b2 c0 bb s3) := by subst hs4; exact hD.part [53, 54, 55, 56, 57, 0, 1, 2, 3, 4, 5, 58, 59, 60, 61, 62, 63, 6, 7, 8, 9, 10, 11, 12, 13, 14, 15, 16, 17, 18, 19, 20, 21, 22, 23, 24, 25, 26, 27, 28, 29, 30, 31, 32, 33, 34, 35, 36, 37, 38, 39, 40, 41, 42, 43, 44, 45, 46, 47, 48, 49, 50, 51, 52] (by decide) rfl
  obtain ⟨z5, hB⟩ := guard_inv hB
  exact q_zret C hr hlocks z5 hK hP hD hS (Nat.le_of_ble_eq_true rfl) (Nat.le_of_ble_eq_true rfl) dX10_restore_12 (by cases hB; exact ⟨rfl, rfl⟩)
theorem ckX10_restore {l : Launch} {dC : Nat → ClassId} {dI : Nat → Nat → Nat} {cB cI cJ cZ cS : ClassId} {a b b2 c0 : Nat → Nat} {bb : Nat → Nat → Nat} {r : Int32} {s' : YS} {s : YS} {x1 : Int32} (hB : kX10_restore s x1 = some (r, s')) : CI l yX10_restore wsX10_restore ({ frames := 3, cells := 0, slots := 0, locals := 107 }) (dC, dI) (tysA cB cI cJ cZ cS) (wY cB cI cJ cZ cS a b b2 c0 bb s) [.ref (c0 0), .int x1] (fun x u => x = r ∧ u = (wY cB cI cJ cZ cS a b b2 c0 bb s')) :=
  CI_of (cc := cX10_restore) (maxL := 2) (ret := (some .boolean)) (by decide) rfl (Nat.le_of_ble_eq_true rfl) (bkX10_restore _ _ hB)
theorem LX4_readProduct_12 : Cond.fieldLink RX4 12 "GuessFerry$Reader" "draft" "LGuessFerry$Sound;" ∈ wsX4_readProduct := (List.mem_cons_of_mem _ (List.mem_append_left _ (List.mem_append_left _ (List.mem_append_left _ (List.mem_append_left _ (List.mem_append_left _ (List.mem_of_getElem? (i := 2) rfl)))))))
theorem LX4_readProduct_31 : Cond.fieldLink RX4 31 "GuessFerry$Reader" "tokens" "LGuessFerry$Tokens;" ∈ wsX4_readProduct := (List.mem_cons_of_mem _ (List.mem_append_left _ (List.mem_append_left _ (List.mem_append_left _ (List.mem_append_left _ (List.mem_append_left _ (List.mem_of_getElem? (i := 0) rfl)))))))
theorem LX4_readProduct_38 : Cond.fieldLink RX4 38 "GuessFerry$Reader" "at" "I" ∈ wsX4_readProduct := (List.mem_cons_of_mem _ (List.mem_append_left _ (List.mem_append_left _ (List.mem_append_left _ (List.mem_append_left _ (List.mem_append_left _ (List.mem_of_getElem? (i := 1) rfl)))))))
theorem LX4_readProduct_E_X1_putSign : Cond.selects RX1 yX1_putSign yX1_putSign ∈ wsX4_readProduct := (List.mem_cons_of_mem _ (List.mem_append_left _ (List.mem_append_left _ (List.mem_append_left _ (List.mem_append_left _ (List.mem_append_left _ (List.mem_of_getElem? (i := 18) rfl)))))))
theorem LX4_readProduct_I_X1 : Cond.initialized RX1 ∈ wsX4_readProduct := (List.mem_cons_of_mem _ (List.mem_append_left _ (List.mem_append_left _ (List.mem_append_left _ (List.mem_append_left _ (List.mem_append_left _ (List.mem_of_getElem? (i := 17) rfl)))))))
theorem LX4_readProduct_N_X1_putSign : Cond.instanceMethod yX1_putSign ∈ wsX4_readProduct := (List.mem_cons_of_mem _ (List.mem_append_left _ (List.mem_append_left _ (List.mem_append_left _ (List.mem_append_left _ (List.mem_append_left _ (List.mem_of_getElem? (i := 16) rfl)))))))
theorem inX4_readProduct_X4 : ∀ w ∈ u_ws RX4 TX4 8, w ∈ wsX4_readProduct := fun w h => (List.mem_cons_of_mem _ (List.mem_append_left _ (List.mem_append_left _ (List.mem_append_left _ (List.mem_append_right _ h)))))
theorem inX4_readProduct_X5 : ∀ w ∈ u_ws RX5 TX5 10, w ∈ wsX4_readProduct := fun w h => (List.mem_cons_of_mem _ (List.mem_append_left _ (List.mem_append_right _ h)))
theorem inX4_readProduct_X9 : ∀ w ∈ u_ws RX9 TX9 7, w ∈ wsX4_readProduct := fun w h => (List.mem_cons_of_mem _ (List.mem_append_left _ (List.mem_append_left _ (List.mem_append_right _ h))))
set_option maxHeartbeats 4000000 in
set_option maxRecDepth 100000 in
theorem bkX4_readProduct_32 {l : Launch} {dC : Nat → ClassId} {dI : Nat → Nat → Nat} {cB cI cJ cZ cS : ClassId} {a : Nat → Nat} {R : KS → Int32 → Option KS} {fr lo : Nat} (hR : ∀ {s : KS} {x1 : Int32} {s' : KS}, R s x1 = some s' → CV l yX4_readSum wsX4_readSum ({ frames := fr, cells := 0, slots := 0, locals := lo }) (dC, dI) (tysA cB cI cJ cZ cS) (wK cB cI cJ cZ cS a s) [.ref (a 28), .int x1] (fun u => u = wK cB cI cJ cZ cS a s')) (hfr : 2 ≤ fr) (hlo : 42 ≤ lo) {as : List Value} {s' : KS} {k7 : KS → Int32 → Int32 → Option KS} (hk7 : ∀ (s : KS) (x1 : Int32) (x2 : Int32), k7 s x1 x2 = some s' → BlkV l yX4_readProduct wsX4_readProduct ({ frames := fr + 2, cells := 0, slots := 0, locals := lo + 46 }) cX4_readProduct 4 none (dC, dI) (tysA cB cI cJ cZ cS) as 7 (wK cB cI cJ cZ cS a s) [(0, .ref (a 28)), (1, .int x1), (2, .int x2)] [] (fun u => u = (wK cB cI cJ cZ cS a s'))) (s : KS) (x1 : Int32) (x2 : Int32) (hB : kX4_readProduct_32 R k7 s x1 x2 = some s') : BlkV l yX4_readProduct wsX4_readProduct ({ frames := fr + 2, cells := 0, slots := 0, locals := lo + 46 }) cX4_readProduct 4 none (dC, dI) (tysA cB cI cJ cZ cS) as 32 (wK cB cI cJ cZ cS a s) [(0, .ref (a 28)), (1, .int x1), (2, .int x2)] [] (fun u => u = (wK cB cI cJ cZ cS a s')) := by
  intro p e s0 m below meth c A E H locs ls hP hD hS hl
  obtain ⟨C, hr, hlocks, hA, hK, hN⟩ := id E
  obtain ⟨hx, hb, hml, hown, hts⟩ := id C
  unfold kX4_readProduct_32 at hB
  refine lv_aload_n hx hb dX4_readProduct_32 rfl (lv_at hl 0 rfl) ?_
  refine q_get (v := .ref (a 30)) C inX4_readProduct_X4 hK hP 28 rfl rfl 0 (by decide) rfl LX4_readProduct_31 rfl dX4_readProduct_33 ?_
  refine q_getN (v := .ref (a 32)) C hN inX4_readProduct_X9 hK hP 30 rfl rfl 2 (by decide) rfl nwF_X4_63 rfl dX4_readProduct_36 ?_
  refine lv_aload_n hx hb dX4_readProduct_39 rfl (lv_at hl 0 rfl) ?_
  refine q_get (v := .int (s.v 15)) C inX4_readProduct_X4 hK hP 28 rfl rfl 3 (by decide) rfl LX4_readProduct_38 rfl dX4_readProduct_40 ?_
  obtain ⟨g1, hB⟩ := guard_inv hB
  refine q_iald (x := ((s.f 32) (Int32.toNatClampNeg (s.v 15)))) C hK hP 32 1 rfl rfl (vpb_in g1) dX4_readProduct_43 rfl ?_
  refine lv_istore_n (lv' := [(3, .int ((s.f 32) (Int32.toNatClampNeg (s.v 15)))), (0, .ref (a 28)), (1, .int x1), (2, .int x2)]) hx hb dX4_readProduct_44 rfl hl (by decide) rfl (fun ls hl => ?_)
  refine lv_aload_n hx hb dX4_readProduct_45 rfl (lv_at hl 1 rfl) ?_
  refine lv_iload_n hx hb dX4_readProduct_46 rfl (lv_at hl 0 rfl) ?_
  obtain ⟨s2, hc, hB⟩ := bindP_inv hB
  refine q_govF (va_runV (As := [.int ((s.f 32) (Int32.toNatClampNeg (s.v 15)))]) (rest := []) C (ckX4_take hc _) (cwV 1 hts gX4_readProduct_X4_take rfl rfl rfl (by decide +kernel) ⟨by dsimp only; omega, by dsimp only; omega⟩) (q_preV hK hP (ci := 4) (q0 := 28) rfl rfl rfl (q_preF hN hK hP hD)) rfl rfl hl.1 rfl (lv_room (Nat.le_of_ble_eq_true rfl)) dX4_readProduct_47 ⟨Nat.le_of_ble_eq_true rfl, Nat.le_of_ble_eq_true rfl⟩) hD hS hA (fun w1 H locs hw hP hD hS => ?_)
  subst hw
  refine lv_aload_n hx hb dX4_readProduct_50 rfl (lv_at hl 1 rfl) ?_
  refine lv_iload_n hx hb dX4_readProduct_51 rfl (lv_at hl 2 rfl) ?_
  obtain ⟨s3, hc, hB⟩ := bindP_inv hB
  refine q_govF (va_runV (As := [.int x1]) (rest := []) C (ckX4_readUnit hR (by omega) (by omega) hc _) (cwV 1 hts gX4_readProduct_X4_readUnit rfl rfl rfl (by decide +kernel) ⟨by dsimp only; omega, by dsimp only; omega⟩) (q_preV hK hP (ci := 4) (q0 := 28) rfl rfl rfl (q_preF hN hK hP hD)) rfl rfl hl.1 rfl (lv_room (Nat.le_of_ble_eq_true rfl)) dX4_readProduct_52 ⟨Nat.le_of_ble_eq_true rfl, Nat.le_of_ble_eq_true rfl⟩) hD hS hA (fun w1 H locs hw hP hD hS => ?_)
  subst hw
  refine lv_aload_n hx hb dX4_readProduct_55 rfl (lv_at hl 1 rfl) ?_
  refine q_get (v := .ref (a 15)) C inX4_readProduct_X4 hK hP 28 rfl rfl 1 (by decide) rfl LX4_readProduct_12 rfl dX4_readProduct_56 ?_
  refine q_getN (v := .ref (a 21)) C hN inX4_readProduct_X5 hK hP 15 rfl rfl 5 (by decide) rfl nwF_X4_119 rfl dX4_readProduct_59 ?_
  refine lv_iload_n hx hb dX4_readProduct_62 rfl (lv_at hl 0 rfl) ?_
  obtain ⟨s4, hc, hB⟩ := bindP_inv hB
  refine q_govF (va_runVN (As := [.int ((s.f 32) (Int32.toNatClampNeg (s.v 15)))]) (rest := []) C (ckX1_putSign hc _) ⟨va_cnB 1 hts gX4_readProduct_X1_putSign_n140 rfl rfl rfl (hN _ nwM_X4_140 rfl) (hts _ LX4_readProduct_I_X1) (by decide +kernel) ⟨by dsimp only; omega, by dsimp only; omega⟩, hts _ LX4_readProduct_N_X1_putSign, hts _ LX4_readProduct_E_X1_putSign⟩ (q_preV hK hP (ci := 1) (q0 := 21) rfl rfl rfl (q_preF hN hK hP hD)) rfl rfl hl.1 rfl (lv_room (Nat.le_of_ble_eq_true rfl)) dX4_readProduct_63 ⟨Nat.le_of_ble_eq_true rfl, Nat.le_of_ble_eq_true rfl⟩) hD hS hA (fun w1 H locs hw hP hD hS => ?_)
  subst hw
  refine lv_iinc (v := (x2 + 1)) (lv' := [(2, .int (x2 + 1)), (3, .int ((s.f 32) (Int32.toNatClampNeg (s.v 15)))), (0, .ref (a 28)), (1, .int x1)]) hx hb dX4_readProduct_66 hl (k := 3) rfl (rfl) (by decide) rfl (fun ls hl => ?_)
  refine lv_goto (tgt := 7) hx hb dX4_readProduct_69 (by decide) ?_
  exact hk7 _ _ _ hB p e s0 m below meth c A E H locs ls hP hD hS (lv_sub hl [2, 3, 0] rfl)
set_option maxHeartbeats 4000000 in
set_option maxRecDepth 100000 in
theorem bkX4_readProduct_7 {l : Launch} {dC : Nat → ClassId} {dI : Nat → Nat → Nat} {cB cI cJ cZ cS : ClassId} {a : Nat → Nat} {R : KS → Int32 → Option KS} {fr lo : Nat} (hR : ∀ {s : KS} {x1 : Int32} {s' : KS}, R s x1 = some s' → CV l yX4_readSum wsX4_readSum ({ frames := fr, cells := 0, slots := 0, locals := lo }) (dC, dI) (tysA cB cI cJ cZ cS) (wK cB cI cJ cZ cS a s) [.ref (a 28), .int x1] (fun u => u = wK cB cI cJ cZ cS a s')) (hfr : 2 ≤ fr) (hlo : 42 ≤ lo) {as : List Value} {s' : KS} {k7 : KS → Int32 → Int32 → Option KS} (hk7 : ∀ (s : KS) (x1 : Int32) (x2 : Int32), k7 s x1 x2 = some s' → BlkV l yX4_readProduct wsX4_readProduct ({ frames := fr + 2, cells := 0, slots := 0, locals := lo + 46 }) cX4_readProduct 4 none (dC, dI) (tysA cB cI cJ cZ cS) as 7 (wK cB cI cJ cZ cS a s) [(0, .ref (a 28)), (1, .int x1), (2, .int x2)] [] (fun u => u = (wK cB cI cJ cZ cS a s'))) (s : KS) (x1 : Int32) (x2 : Int32) (hB : kX4_readProduct_7 R k7 s x1 x2 = some s') : BlkV l yX4_readProduct wsX4_readProduct ({ frames := fr + 2, cells := 0, slots := 0, locals := lo + 46 }) cX4_readProduct 4 none (dC, dI) (tysA cB cI cJ cZ cS) as 7 (wK cB cI cJ cZ cS a s) [(0, .ref (a 28)), (1, .int x1), (2, .int x2)] [] (fun u => u = (wK cB cI cJ cZ cS a s')) := by
  intro p e s0 m below meth c A E H locs ls hP hD hS hl
  obtain ⟨C, hr, hlocks, hA, hK, hN⟩ := id E
  obtain ⟨hx, hb, hml, hown, hts⟩ := id C
  unfold kX4_readProduct_7 at hB
  refine lv_iload_n hx hb dX4_readProduct_7 rfl (lv_at hl 2 rfl) ?_
  refine lv_sipush (v := 400) hx hb dX4_readProduct_8 (by decide) ?_
  refine lv_icmp_ge (tgt := 72) hx hb dX4_readProduct_11 (by decide) (fun c1 => ?_) (fun c1 => ?_)
  · have hB := if_p hB c1
    exact q_vret C hr hlocks hK hP hD hS (Nat.le_of_ble_eq_true rfl) (Nat.le_of_ble_eq_true rfl) dX4_readProduct_72 (by cases hB; rfl)
  · have hB := if_n hB c1
    refine lv_aload_n hx hb dX4_readProduct_14 rfl (lv_at hl 0 rfl) ?_
    refine lv_bipush (v := 42) hx hb dX4_readProduct_15 (by decide) ?_
    obtain ⟨q_, s2, hc, hB⟩ := bindI_inv hB
    refine q_goiF (va_runV (As := [.int 42]) (rest := []) C (ckX4_isAt hc _) (cwV 1 hts gX4_readProduct_X4_isAt rfl rfl rfl (by decide +kernel) ⟨by dsimp only; omega, by dsimp only; omega⟩) (q_preV hK hP (ci := 4) (q0 := 28) rfl rfl rfl (q_preF hN hK hP hD)) rfl rfl hl.1 rfl (lv_room (Nat.le_of_ble_eq_true rfl)) dX4_readProduct_17 ⟨Nat.le_of_ble_eq_true rfl, Nat.le_of_ble_eq_true rfl⟩) hD hS hA (fun r3 w1 H locs hw hP hD hS => ?_)
    obtain ⟨hq_, hw⟩ := hw; subst hw; subst hq_
    refine lv_if_ne (tgt := 32) hx hb dX4_readProduct_20 (by decide) (fun c4 => ?_) (fun c4 => ?_)
    · have hB := if_n hB c4
      exact bkX4_readProduct_32 hR hfr hlo (hk7) _ _ _ hB p e s0 m below meth c A E H locs ls hP hD hS (lv_sub hl [0, 1, 2] rfl)
    · have hB := if_p hB c4
      refine lv_aload_n hx hb dX4_readProduct_23 rfl (lv_at hl 0 rfl) ?_
      refine lv_bipush (v := 47) hx hb dX4_readProduct_24 (by decide) ?_
      obtain ⟨q_, s5, hc, hB⟩ := bindI_inv hB
      refine q_goiF (va_runV (As := [.int 47]) (rest := []) C (ckX4_isAt hc _) (cwV 1 hts gX4_readProduct_X4_isAt rfl rfl rfl (by decide +kernel) ⟨by dsimp only; omega, by dsimp only; omega⟩) (q_preV hK hP (ci := 4) (q0 := 28) rfl rfl rfl (q_preF hN hK hP hD)) rfl rfl hl.1 rfl (lv_room (Nat.le_of_ble_eq_true rfl)) dX4_readProduct_26 ⟨Nat.le_of_ble_eq_true rfl, Nat.le_of_ble_eq_true rfl⟩) hD hS hA (fun r6 w1 H locs hw hP hD hS => ?_)
      obtain ⟨hq_, hw⟩ := hw; subst hw; subst hq_
      refine lv_if_eq (tgt := 72) hx hb dX4_readProduct_29 (by decide) (fun c7 => ?_) (fun c7 => ?_)
      · have hB := if_p hB c7
        exact q_vret C hr hlocks hK hP hD hS (Nat.le_of_ble_eq_true rfl) (Nat.le_of_ble_eq_true rfl) dX4_readProduct_72 (by cases hB; rfl)
      · have hB := if_n hB c7
        exact bkX4_readProduct_32 hR hfr hlo (hk7) _ _ _ hB p e s0 m below meth c A E H locs ls hP hD hS (lv_sub hl [0, 1, 2] rfl)
theorem bkX4_readProduct_7L {l : Launch} {dC : Nat → ClassId} {dI : Nat → Nat → Nat} {cB cI cJ cZ cS : ClassId} {a : Nat → Nat} {R : KS → Int32 → Option KS} {fr lo : Nat} (hR : ∀ {s : KS} {x1 : Int32} {s' : KS}, R s x1 = some s' → CV l yX4_readSum wsX4_readSum ({ frames := fr, cells := 0, slots := 0, locals := lo }) (dC, dI) (tysA cB cI cJ cZ cS) (wK cB cI cJ cZ cS a s) [.ref (a 28), .int x1] (fun u => u = wK cB cI cJ cZ cS a s')) (hfr : 2 ≤ fr) (hlo : 42 ≤ lo) {as : List Value} {s' : KS} : ∀ (n : Nat) (s : KS) (x1 : Int32) (x2 : Int32), kX4_readProduct_7L R n s x1 x2 = some s' → BlkV l yX4_readProduct wsX4_readProduct ({ frames := fr + 2, cells := 0, slots := 0, locals := lo + 46 }) cX4_readProduct 4 none (dC, dI) (tysA cB cI cJ cZ cS) as 7 (wK cB cI cJ cZ cS a s) [(0, .ref (a 28)), (1, .int x1), (2, .int x2)] [] (fun u => u = (wK cB cI cJ cZ cS a s')) := by
  intro n
  induction n with
  | zero => intro s x1 x2 hB; exact none_ne hB
  | succ n ih => intro s x1 x2 hB; exact bkX4_readProduct_7 hR hfr hlo ih _ _ _ hB
set_option maxHeartbeats 4000000 in
set_option maxRecDepth 100000 in
theorem bkX4_readProduct {l : Launch} {dC : Nat → ClassId} {dI : Nat → Nat → Nat} {cB cI cJ cZ cS : ClassId} {a : Nat → Nat} {R : KS → Int32 → Option KS} {fr lo : Nat} (hR : ∀ {s : KS} {x1 : Int32} {s' : KS}, R s x1 = some s' → CV l yX4_readSum wsX4_readSum ({ frames := fr, cells := 0, slots := 0, locals := lo }) (dC, dI) (tysA cB cI cJ cZ cS) (wK cB cI cJ cZ cS a s) [.ref (a 28), .int x1] (fun u => u = wK cB cI cJ cZ cS a s')) (hfr : 2 ≤ fr) (hlo : 42 ≤ lo) {as : List Value} {s' : KS} (s : KS) (x1 : Int32) (hB : kX4_readProduct R s x1 = some s') : BlkV l yX4_readProduct wsX4_readProduct ({ frames := fr + 2, cells := 0, slots := 0, locals := lo + 46 }) cX4_readProduct 4 none (dC, dI) (tysA cB cI cJ cZ cS) as 0 (wK cB cI cJ cZ cS a s) [(0, .ref (a 28)), (1, .int x1)] [] (fun u => u = (wK cB cI cJ cZ cS a s')) := by
  intro p e s0 m below meth c A E H locs ls hP hD hS hl
  obtain ⟨C, hr, hlocks, hA, hK, hN⟩ := id E
  obtain ⟨hx, hb, hml, hown, hts⟩ := id C
  unfold kX4_readProduct at hB
  refine lv_aload_n hx hb dX4_readProduct_0 rfl (lv_at hl 0 rfl) ?_
  refine lv_iload_n hx hb dX4_readProduct_1 rfl (lv_at hl 1 rfl) ?_
  obtain ⟨s1, hc, hB⟩ := bindP_inv hB
  refine q_govF (va_runV (As := [.int x1]) (rest := []) C (ckX4_readUnit hR (by omega) (by omega) hc _) (cwV 1 hts gX4_readProduct_X4_readUnit rfl rfl rfl (by decide +kernel) ⟨by dsimp only; omega, by dsimp only; omega⟩) (q_preV hK hP (ci := 4) (q0 := 28) rfl rfl rfl (q_preF hN hK hP hD)) rfl rfl hl.1 rfl (lv_room (Nat.le_of_ble_eq_true rfl)) dX4_readProduct_2 ⟨Nat.le_of_ble_eq_true rfl, Nat.le_of_ble_eq_true rfl⟩) hD hS hA (fun w1 H locs hw hP hD hS => ?_)
  subst hw
  refine lv_iconst (v := 0) hx hb dX4_readProduct_5 (by decide) ?_
  refine lv_istore_n (lv' := [(2, .int 0), (0, .ref (a 28)), (1, .int x1)]) hx hb dX4_readProduct_6 rfl hl (by decide) rfl (fun ls hl => ?_)
  exact bkX4_readProduct_7L hR hfr hlo fu _ _ _ hB p e s0 m below meth c A E H locs ls hP hD hS (lv_sub hl [1, 2, 0] rfl)
theorem ckX4_readProduct {l : Launch} {dC : Nat → ClassId} {dI : Nat → Nat → Nat} {cB cI cJ cZ cS : ClassId} {a : Nat → Nat} {R : KS → Int32 → Option KS} {fr lo : Nat} (hR : ∀ {s : KS} {x1 : Int32} {s' : KS}, R s x1 = some s' → CV l yX4_readSum wsX4_readSum ({ frames := fr, cells := 0, slots := 0, locals := lo }) (dC, dI) (tysA cB cI cJ cZ cS) (wK cB cI cJ cZ cS a s) [.ref (a 28), .int x1] (fun u => u = wK cB cI cJ cZ cS a s')) (hfr : 2 ≤ fr) (hlo : 42 ≤ lo) {s' : KS} {s : KS} {x1 : Int32} (hB : kX4_readProduct R s x1 = some s') : CV l yX4_readProduct wsX4_readProduct ({ frames := fr + 2, cells := 0, slots := 0, locals := lo + 46 }) (dC, dI) (tysA cB cI cJ cZ cS) (wK cB cI cJ cZ cS a s) [.ref (a 28), .int x1] (fun u => u = (wK cB cI cJ cZ cS a s')) :=
  CV_of (cc := cX4_readProduct) (maxL := 4) (ret := none) (by decide) rfl (Nat.le_of_ble_eq_true rfl) (bkX4_readProduct hR hfr hlo _ _ hB)
theorem LX9_split_13 : Cond.fieldLink RX9 13 "GuessFerry$Tokens" "kinds" "[I" ∈ wsX9_split := (List.mem_cons_of_mem _ (List.mem_append_left _ (List.mem_append_left _ (List.mem_append_left _ (List.mem_of_getElem? (i := 2) rfl)))))
theorem LX9_split_17 : Cond.fieldLink RX9 17 "GuessFerry$Tokens" "starts" "[I" ∈ wsX9_split := (List.mem_cons_of_mem _ (List.mem_append_left _ (List.mem_append_left _ (List.mem_append_left _ (List.mem_of_getElem? (i := 1) rfl)))))
theorem LX9_split_20 : Cond.fieldLink RX9 20 "GuessFerry$Tokens" "values" "[J" ∈ wsX9_split := (List.mem_cons_of_mem _ (List.mem_append_left _ (List.mem_append_left _ (List.mem_append_left _ (List.mem_of_getElem? (i := 3) rfl)))))
theorem LX9_split_47 : Cond.fieldLink RX9 47 "GuessFerry$Tokens" "end" "I" ∈ wsX9_split := (List.mem_cons_of_mem _ (List.mem_append_left _ (List.mem_append_left _ (List.mem_append_left _ (List.mem_of_getElem? (i := 0) rfl)))))
theorem LX9_split_57 : Cond.fieldLink RX9 57 "GuessFerry$Tokens" "value" "J" ∈ wsX9_split := (List.mem_cons_of_mem _ (List.mem_append_left _ (List.mem_append_left _ (List.mem_append_left _ (List.mem_of_getElem? (i := 4) rfl)))))
theorem inX9_split_X9 : ∀ w ∈ u_ws RX9 TX9 7, w ∈ wsX9_split := fun w h => (List.mem_cons_of_mem _ (List.mem_append_left _ (List.mem_append_right _ h)))
set_option maxHeartbeats 4000000 in
set_option maxRecDepth 100000 in
theorem bkX9_split_36 {l : Launch} {dC : Nat → ClassId} {dI : Nat → Nat → Nat} {cB cI cJ cZ cS : ClassId} {ak av : Nat} {a : Nat → Nat} {as : List Value} {s' : KS} {k11 : KS → Int32 → Int32 → Option KS} (hk11 : ∀ (s : KS) (x1 : Int32) (x2 : Int32), k11 s x1 x2 = some s' → BlkVS ak av l yX9_split wsX9_split ({ frames := 5, cells := 0, slots := 0, locals := 112 }) cX9_split 3 none (dC, dI) (tysA cB cI cJ cZ cS) as 11 (wK cB cI cJ cZ cS a s) [(0, .ref (a 30)), (1, .int x1), (2, .int x2)] [] (fun u => u = (wK cB cI cJ cZ cS a s'))) (s : KS) (x2 : Int32) (hB : kX9_split_36 k11 s x2 = some s') : BlkVS ak av l yX9_split wsX9_split ({ frames := 5, cells := 0, slots := 0, locals := 112 }) cX9_split 3 none (dC, dI) (tysA cB cI cJ cZ cS) as 36 (wK cB cI cJ cZ cS a s) [(0, .ref (a 30)), (2, .int x2)] [] (fun u => u = (wK cB cI cJ cZ cS a s')) := by
  intro p e s0 m below meth c A E hX H locs ls hP hD hS hl
  obtain ⟨C, hr, hlocks, hA, hK, hN⟩ := id E
  obtain ⟨hx, hb, hml, hown, hts⟩ := id C
  unfold kX9_split_36 at hB
  refine lv_aload_n hx hb dX9_split_36 rfl (lv_at hl 0 rfl) ?_
  obtain ⟨s1, hc, hB⟩ := bindP_inv hB
  refine q_govF (va_runV (As := []) (rest := []) C (ckX9_skipBlanks hc _) (cwV 0 hts gX9_split_X9_skipBlanks rfl rfl rfl (by decide +kernel) ⟨Nat.le_of_ble_eq_true rfl, Nat.le_of_ble_eq_true rfl⟩) (q_preV hK hP (ci := 9) (q0 := 30) rfl rfl rfl (q_preF hN hK hP hD)) rfl rfl hl.1 rfl (lv_room (Nat.le_of_ble_eq_true rfl)) dX9_split_37 ⟨Nat.le_of_ble_eq_true rfl, Nat.le_of_ble_eq_true rfl⟩) hD hS hA (fun w1 H locs hw hP hD hS => ?_)
  subst hw
  refine lv_aload_n hx hb dX9_split_40 rfl (lv_at hl 0 rfl) ?_
  refine q_get (v := .ref (a 33)) C inX9_split_X9 hK hP 30 rfl rfl 3 (by decide) rfl LX9_split_17 rfl dX9_split_41 ?_
  refine lv_iload_n hx hb dX9_split_44 rfl (lv_at hl 1 rfl) ?_
  refine lv_aload_n hx hb dX9_split_45 rfl (lv_at hl 0 rfl) ?_
  refine q_get (v := .int (s1.v 20)) C inX9_split_X9 hK hP 30 rfl rfl 5 (by decide) rfl LX9_split_47 rfl dX9_split_46 ?_
  obtain ⟨g2, hB⟩ := guard_inv hB
  obtain ⟨s3, hs4, hB⟩ := letS_inv hB
  refine q_iast (f2 := (upd (s1.f 33) (Int32.toNatClampNeg x2) (s1.v 20))) (w2 := (wK cB cI cJ cZ cS a s3)) C hK hP hD hS 33 1 rfl rfl (vpb_in g2) dX9_split_49 rfl (by subst hs4; rfl) (fun H locs hP hD hS => ?_)
  refine lv_aload_n hx hb dX9_split_50 rfl (lv_at hl 0 rfl) ?_
  obtain ⟨q_, s5, hc, hB⟩ := bindI_inv hB
  refine q_goiF (va_runV (As := []) (rest := []) C (ckX9_splitOne hc _) (cwV 0 hts gX9_split_X9_splitOne rfl rfl rfl (by decide +kernel) ⟨Nat.le_of_ble_eq_true rfl, Nat.le_of_ble_eq_true rfl⟩) (q_preV hK hP (ci := 9) (q0 := 30) rfl rfl rfl (q_preSF hN hK hP hD hS hA hX)) rfl rfl hl.1 rfl (lv_room (Nat.le_of_ble_eq_true rfl)) dX9_split_51 ⟨Nat.le_of_ble_eq_true rfl, Nat.le_of_ble_eq_true rfl⟩) hD hS hA (fun r6 w1 H locs hw hP hD hS => ?_)
  obtain ⟨hq_, hw⟩ := hw; subst hw; subst hq_
  refine lv_istore_n (lv' := [(1, .int r6), (0, .ref (a 30)), (2, .int x2)]) hx hb dX9_split_54 rfl hl (by decide) rfl (fun ls hl => ?_)
  refine lv_aload_n hx hb dX9_split_55 rfl (lv_at hl 1 rfl) ?_
  refine q_get (v := .ref (a 32)) C inX9_split_X9 hK hP 30 rfl rfl 2 (by decide) rfl LX9_split_13 rfl dX9_split_56 ?_
  refine lv_iload_n hx hb dX9_split_59 rfl (lv_at hl 2 rfl) ?_
  refine lv_iload_n hx hb dX9_split_60 rfl (lv_at hl 0 rfl) ?_
  obtain ⟨g7, hB⟩ := guard_inv hB
  obtain ⟨s8, hs9, hB⟩ := letS_inv hB
  refine q_iast (f2 := (upd (s5.f 32) (Int32.toNatClampNeg x2) r6)) (w2 := (wK cB cI cJ cZ cS a s8)) C hK hP hD hS 32 1 rfl rfl (vpb_in g7) dX9_split_61 rfl (by subst hs9; rfl) (fun H locs hP hD hS => ?_)
  refine lv_aload_n hx hb dX9_split_62 rfl (lv_at hl 1 rfl) ?_
  refine q_get (v := .ref (a 34)) C inX9_split_X9 hK hP 30 rfl rfl 4 (by decide) rfl LX9_split_20 rfl dX9_split_63 ?_
  refine lv_iload_n hx hb dX9_split_66 rfl (lv_at hl 2 rfl) ?_
  refine lv_aload_n hx hb dX9_split_67 rfl (lv_at hl 1 rfl) ?_
  refine q_get (v := .long (s8.u 0)) C inX9_split_X9 hK hP 30 rfl rfl 6 (by decide) rfl LX9_split_57 rfl dX9_split_68 ?_
  obtain ⟨g10, hB⟩ := guard_inv hB
  obtain ⟨s11, hs12, hB⟩ := letS_inv hB
  refine q_last (f2 := (vp_updL (s8.g 34) (Int32.toNatClampNeg x2) (s8.u 0))) (w2 := (wK cB cI cJ cZ cS a s11)) C hK hP hD hS 34 2 rfl rfl (vpb_in g10) dX9_split_71 rfl (by subst hs12; rfl) (fun H locs hP hD hS => ?_)
  refine lv_iinc (v := (x2 + 1)) (lv' := [(2, .int (x2 + 1)), (1, .int r6), (0, .ref (a 30))]) hx hb dX9_split_72 hl (k := 2) rfl (rfl) (by decide) rfl (fun ls hl => ?_)
  refine lv_goto (tgt := 11) hx hb dX9_split_75 (by decide) ?_
  exact hk11 _ _ _ hB p e s0 m below meth c A E hX H locs ls hP hD hS (lv_sub hl [2, 1, 0] rfl)
set_option maxHeartbeats 4000000 in
set_option maxRecDepth 100000 in
theorem bkX9_split_11 {l : Launch} {dC : Nat → ClassId} {dI : Nat → Nat → Nat} {cB cI cJ cZ cS : ClassId} {ak av : Nat} {a : Nat → Nat} {as : List Value} {s' : KS} {k11 : KS → Int32 → Int32 → Option KS} (hk11 : ∀ (s : KS) (x1 : Int32) (x2 : Int32), k11 s x1 x2 = some s' → BlkVS ak av l yX9_split wsX9_split ({ frames := 5, cells := 0, slots := 0, locals := 112 }) cX9_split 3 none (dC, dI) (tysA cB cI cJ cZ cS) as 11 (wK cB cI cJ cZ cS a s) [(0, .ref (a 30)), (1, .int x1), (2, .int x2)] [] (fun u => u = (wK cB cI cJ cZ cS a s'))) (s : KS) (x1 : Int32) (x2 : Int32) (hB : kX9_split_11 k11 s x1 x2 = some s') : BlkVS ak av l yX9_split wsX9_split ({ frames := 5, cells := 0, slots := 0, locals := 112 }) cX9_split 3 none (dC, dI) (tysA cB cI cJ cZ cS) as 11 (wK cB cI cJ cZ cS a s) [(0, .ref (a 30)), (1, .int x1), (2, .int x2)] [] (fun u => u = (wK cB cI cJ cZ cS a s')) := by
  intro p e s0 m below meth c A E hX H locs ls hP hD hS hl
  obtain ⟨C, hr, hlocks, hA, hK, hN⟩ := id E
  obtain ⟨hx, hb, hml, hown, hts⟩ := id C
  unfold kX9_split_11 at hB
  refine lv_iload_n hx hb dX9_split_11 rfl (lv_at hl 2 rfl) ?_
  refine lv_sipush (v := 400) hx hb dX9_split_12 (by decide) ?_
  refine lv_icmp_gt (tgt := 78) hx hb dX9_split_15 (by decide) (fun c1 => ?_) (fun c1 => ?_)
  · have hB := if_p hB c1
    exact q_vret C hr hlocks hK hP hD hS (Nat.le_of_ble_eq_true rfl) (Nat.le_of_ble_eq_true rfl) dX9_split_78 (by cases hB; rfl)
  · have hB := if_n hB c1
    refine lv_iload_n hx hb dX9_split_18 rfl (lv_at hl 2 rfl) ?_
    refine lv_if_eq (tgt := 36) hx hb dX9_split_19 (by decide) (fun c2 => ?_) (fun c2 => ?_)
    · have hB := if_p hB c2
      exact bkX9_split_36 (hk11) _ _ hB p e s0 m below meth c A E hX H locs ls hP hD hS (lv_sub hl [0, 2] rfl)
    · have hB := if_n hB c2
      refine lv_iload_n hx hb dX9_split_22 rfl (lv_at hl 1 rfl) ?_
      refine lv_sipush (v := 302) hx hb dX9_split_23 (by decide) ?_
      refine lv_icmp_eq (tgt := 78) hx hb dX9_split_26 (by decide) (fun c3 => ?_) (fun c3 => ?_)
      · have hB := if_p hB c3
        exact q_vret C hr hlocks hK hP hD hS (Nat.le_of_ble_eq_true rfl) (Nat.le_of_ble_eq_true rfl) dX9_split_78 (by cases hB; rfl)
      · have hB := if_n hB c3
        refine lv_iload_n hx hb dX9_split_29 rfl (lv_at hl 1 rfl) ?_
        refine lv_sipush (v := 303) hx hb dX9_split_30 (by decide) ?_
        refine lv_icmp_eq (tgt := 78) hx hb dX9_split_33 (by decide) (fun c4 => ?_) (fun c4 => ?_)
        · have hB := if_p hB c4
          exact q_vret C hr hlocks hK hP hD hS (Nat.le_of_ble_eq_true rfl) (Nat.le_of_ble_eq_true rfl) dX9_split_78 (by cases hB; rfl)
        · have hB := if_n hB c4
          exact bkX9_split_36 (hk11) _ _ hB p e s0 m below meth c A E hX H locs ls hP hD hS (lv_sub hl [0, 2] rfl)
theorem bkX9_split_11L {l : Launch} {dC : Nat → ClassId} {dI : Nat → Nat → Nat} {cB cI cJ cZ cS : ClassId} {ak av : Nat} {a : Nat → Nat} {as : List Value} {s' : KS} : ∀ (n : Nat) (s : KS) (x1 : Int32) (x2 : Int32), kX9_split_11L n s x1 x2 = some s' → BlkVS ak av l yX9_split wsX9_split ({ frames := 5, cells := 0, slots := 0, locals := 112 }) cX9_split 3 none (dC, dI) (tysA cB cI cJ cZ cS) as 11 (wK cB cI cJ cZ cS a s) [(0, .ref (a 30)), (1, .int x1), (2, .int x2)] [] (fun u => u = (wK cB cI cJ cZ cS a s')) := by
  intro n
  induction n with
  | zero => intro s x1 x2 hB; exact none_ne hB
  | succ n ih => intro s x1 x2 hB; exact bkX9_split_11 ih _ _ _ hB
set_option maxHeartbeats 4000000 in
set_option maxRecDepth 100000 in
theorem bkX9_split {l : Launch} {dC : Nat → ClassId} {dI : Nat → Nat → Nat} {cB cI cJ cZ cS : ClassId} {ak av : Nat} {a : Nat → Nat} {as : List Value} {s' : KS} (s : KS) (hB : kX9_split s = some s') : BlkVS ak av l yX9_split wsX9_split ({ frames := 5, cells := 0, slots := 0, locals := 112 }) cX9_split 3 none (dC, dI) (tysA cB cI cJ cZ cS) as 0 (wK cB cI cJ cZ cS a s) [(0, .ref (a 30))] [] (fun u => u = (wK cB cI cJ cZ cS a s')) := by
  intro p e s0 m below meth c A E hX H locs ls hP hD hS hl
  obtain ⟨C, hr, hlocks, hA, hK, hN⟩ := id E
  obtain ⟨hx, hb, hml, hown, hts⟩ := id C
  unfold kX9_split at hB
  refine lv_aload_n hx hb dX9_split_0 rfl (lv_at hl 0 rfl) ?_
  refine lv_iconst (v := 0) hx hb dX9_split_1 (by decide) ?_
  obtain ⟨s1, hs2, hB⟩ := letS_inv hB
  refine q_put (ty := .int) (w2 := (wK cB cI cJ cZ cS a s1)) tyX9 tyX9_ok nmX9 C inX9_split_X9 hK hP hD hS 30 rfl rfl 5 (by decide) rfl LX9_split_47 rfl (by decide +kernel) (rfl) rfl (Nat.le_of_ble_eq_true rfl) dX9_split_2 (by subst hs2; rfl) (fun H locs hP hD hS => ?_)
  refine lv_sipush (v := 303) hx hb dX9_split_5 (by decide) ?_
  refine lv_istore_n (lv' := [(1, .int 303), (0, .ref (a 30))]) hx hb dX9_split_8 rfl hl (by decide) rfl (fun ls hl => ?_)
  refine lv_iconst (v := 0) hx hb dX9_split_9 (by decide) ?_
  refine lv_istore_n (lv' := [(2, .int 0), (1, .int 303), (0, .ref (a 30))]) hx hb dX9_split_10 rfl hl (by decide) rfl (fun ls hl => ?_)
  exact bkX9_split_11L fu _ _ _ hB p e s0 m below meth c A E hX H locs ls hP hD hS (lv_sub hl [2, 1, 0] rfl)
theorem ckX9_split {l : Launch} {dC : Nat → ClassId} {dI : Nat → Nat → Nat} {cB cI cJ cZ cS : ClassId} {ak av : Nat} {a : Nat → Nat} {s' : KS} {s : KS} (hB : kX9_split s = some s') : CVS ak av l yX9_split wsX9_split ({ frames := 5, cells := 0, slots := 0, locals := 112 }) (dC, dI) (tysA cB cI cJ cZ cS) (wK cB cI cJ cZ cS a s) [.ref (a 30)] (fun u => u = (wK cB cI cJ cZ cS a s')) :=
  CVS_of (cc := cX9_split) (maxL := 3) (ret := none) (by decide) rfl (Nat.le_of_ble_eq_true rfl) (bkX9_split _ hB)
end
section
theorem ggX2_oddsOverWithin_X2_bestGuess : GoodIn wsX2_oddsOverWithin wsX2_bestGuess := gi_sub (fun w h => List.mem_cons_of_mem _ (List.mem_append_left _ (List.mem_append_left _ (List.mem_append_left _ (List.mem_append_left _ (List.mem_append_left _ (List.mem_append_right _ (List.mem_append_left _ h)))))))) gd_wsX2_bestGuess
set_option maxRecDepth 20000 in
theorem gX2_oddsOverWithin_X2_bestGuess : GoodIn wsX2_oddsOverWithin (wsV RX2 111 RX2 yX2_bestGuess wsX2_bestGuess) := goodIn_app (goodIn_r _ [2, 3, 4, 5] (by decide +kernel) (by decide +kernel)) ggX2_oddsOverWithin_X2_bestGuess
theorem ggX2_oddsOverWithin_X2_oddsOf : GoodIn wsX2_oddsOverWithin wsX2_oddsOf := gi_sub (fun w h => List.mem_cons_of_mem _ (List.mem_append_left _ (List.mem_append_left _ (List.mem_append_left _ (List.mem_append_left _ (List.mem_append_left _ (List.mem_append_right _ (List.mem_append_right _ (List.mem_append_left _ h))))))))) gd_wsX2_oddsOf
set_option maxRecDepth 20000 in
theorem gX2_oddsOverWithin_X2_oddsOf : GoodIn wsX2_oddsOverWithin (wsV RX2 114 RX2 yX2_oddsOf wsX2_oddsOf) := goodIn_app (goodIn_r _ [7, 8, 9, 5] (by decide +kernel) (by decide +kernel)) ggX2_oddsOverWithin_X2_oddsOf
theorem ggX2_oddsOverWithin_X10_thingIn : GoodIn wsX2_oddsOverWithin wsX10_thingIn := gi_sub (fun w h => List.mem_cons_of_mem _ (List.mem_append_left _ (List.mem_append_left _ (List.mem_append_left _ (List.mem_append_left _ (List.mem_append_left _ (List.mem_append_right _ (List.mem_append_right _ (List.mem_append_right _ (List.mem_append_left _ h)))))))))) gd_wsX10_thingIn
set_option maxRecDepth 20000 in
theorem gX2_oddsOverWithin_X10_thingIn_n65 : GoodIn wsX2_oddsOverWithin (wsX10_thingIn) := ggX2_oddsOverWithin_X10_thingIn
theorem ggX2_oddsOverWithin_X2_mayCount : GoodIn wsX2_oddsOverWithin wsX2_mayCount := gi_sub (fun w h => List.mem_cons_of_mem _ (List.mem_append_left _ (List.mem_append_left _ (List.mem_append_left _ (List.mem_append_left _ (List.mem_append_left _ (List.mem_append_right _ (List.mem_append_right _ (List.mem_append_right _ (List.mem_append_right _ (List.mem_append_left _ h))))))))))) gd_wsX2_mayCount
set_option maxRecDepth 20000 in
theorem gX2_oddsOverWithin_X2_mayCount : GoodIn wsX2_oddsOverWithin (wsV RX2 50 RX2 yX2_mayCount wsX2_mayCount) := goodIn_app (goodIn_r _ [11, 12, 13, 5] (by decide +kernel) (by decide +kernel)) ggX2_oddsOverWithin_X2_mayCount
theorem ggX2_oddsOverWithin_X2_oddsOverWithin : GoodIn wsX2_oddsOverWithin wsX2_oddsOverWithin := gi_sub (fun w h => h) gd_wsX2_oddsOverWithin
set_option maxRecDepth 20000 in
theorem gX2_oddsOverWithin_X2_oddsOverWithin : GoodIn wsX2_oddsOverWithin (wsV RX2 125 RX2 yX2_oddsOverWithin wsX2_oddsOverWithin) := goodIn_app (goodIn_r _ [14, 15, 16, 5] (by decide +kernel) (by decide +kernel)) ggX2_oddsOverWithin_X2_oddsOverWithin
theorem ggX2_oddsOverWithin_X2_unfind : GoodIn wsX2_oddsOverWithin wsX2_unfind := gi_sub (fun w h => List.mem_cons_of_mem _ (List.mem_append_left _ (List.mem_append_left _ (List.mem_append_left _ (List.mem_append_left _ (List.mem_append_left _ (List.mem_append_right _ (List.mem_append_right _ (List.mem_append_right _ (List.mem_append_right _ (List.mem_append_right _ h))))))))))) gd_wsX2_unfind
set_option maxRecDepth 20000 in
theorem gX2_oddsOverWithin_X2_unfind : GoodIn wsX2_oddsOverWithin (wsV RX2 131 RX2 yX2_unfind wsX2_unfind) := goodIn_app (goodIn_r _ [17, 18, 19, 5] (by decide +kernel) (by decide +kernel)) ggX2_oddsOverWithin_X2_unfind
theorem dX2_oddsOverWithin_0 : decode cX2_oddsOverWithin 0 = .ok (.aload_n 0, 1) := dc1_42 (by decide +kernel)
theorem dX2_oddsOverWithin_1 : decode cX2_oddsOverWithin 1 = .ok (.aload_n 1, 1) := dc1_43 (by decide +kernel)
theorem dX2_oddsOverWithin_2 : decode cX2_oddsOverWithin 2 = .ok (.iload_n 2, 1) := dc1_28 (by decide +kernel)
theorem dX2_oddsOverWithin_3 : decode cX2_oddsOverWithin 3 = .ok (.invokevirtual 111, 3) := dcw_182 (by decide +kernel)
theorem dX2_oddsOverWithin_6 : decode cX2_oddsOverWithin 6 = .ok (.istore 4, 2) := dcu_54 (by decide +kernel)
theorem dX2_oddsOverWithin_8 : decode cX2_oddsOverWithin 8 = .ok (.iload 4, 2) := dcu_21 (by decide +kernel)
theorem dX2_oddsOverWithin_10 : decode cX2_oddsOverWithin 10 = .ok (.bipush (-2), 2) := dcb_16 (n := 254) (by decide +kernel)
theorem dX2_oddsOverWithin_12 : decode cX2_oddsOverWithin 12 = .ok (.if_icmp .eq 8, 3) := dcs_159 (n := 8) (by decide +kernel)
theorem dX2_oddsOverWithin_15 : decode cX2_oddsOverWithin 15 = .ok (.iload_n 3, 1) := dc1_29 (by decide +kernel)
theorem dX2_oddsOverWithin_16 : decode cX2_oddsOverWithin 16 = .ok (.iconst 1, 1) := dc1_4 (by decide +kernel)
theorem dX2_oddsOverWithin_17 : decode cX2_oddsOverWithin 17 = .ok (.if_icmp .ge 5, 3) := dcs_162 (n := 5) (by decide +kernel)
theorem dX2_oddsOverWithin_20 : decode cX2_oddsOverWithin 20 = .ok (.iconst 0, 1) := dc1_3 (by decide +kernel)
theorem dX2_oddsOverWithin_21 : decode cX2_oddsOverWithin 21 = .ok (.ireturn, 1) := dc1_172 (by decide +kernel)
theorem dX2_oddsOverWithin_22 : decode cX2_oddsOverWithin 22 = .ok (.aload_n 0, 1) := dc1_42 (by decide +kernel)
theorem dX2_oddsOverWithin_23 : decode cX2_oddsOverWithin 23 = .ok (.aload_n 1, 1) := dc1_43 (by decide +kernel)
theorem dX2_oddsOverWithin_24 : decode cX2_oddsOverWithin 24 = .ok (.iload 4, 2) := dcu_21 (by decide +kernel)
theorem dX2_oddsOverWithin_26 : decode cX2_oddsOverWithin 26 = .ok (.invokevirtual 114, 3) := dcw_182 (by decide +kernel)
theorem dX2_oddsOverWithin_29 : decode cX2_oddsOverWithin 29 = .ok (.istore 5, 2) := dcu_54 (by decide +kernel)
theorem dX2_oddsOverWithin_31 : decode cX2_oddsOverWithin 31 = .ok (.iload_n 3, 1) := dc1_29 (by decide +kernel)
theorem dX2_oddsOverWithin_32 : decode cX2_oddsOverWithin 32 = .ok (.iconst 1, 1) := dc1_4 (by decide +kernel)
theorem dX2_oddsOverWithin_33 : decode cX2_oddsOverWithin 33 = .ok (.if_icmp .ne 6, 3) := dcs_160 (n := 6) (by decide +kernel)
theorem dX2_oddsOverWithin_36 : decode cX2_oddsOverWithin 36 = .ok (.iload 5, 2) := dcu_21 (by decide +kernel)
theorem dX2_oddsOverWithin_38 : decode cX2_oddsOverWithin 38 = .ok (.ireturn, 1) := dc1_172 (by decide +kernel)
theorem dX2_oddsOverWithin_39 : decode cX2_oddsOverWithin 39 = .ok (.aload_n 1, 1) := dc1_43 (by decide +kernel)
theorem dX2_oddsOverWithin_40 : decode cX2_oddsOverWithin 40 = .ok (.getfield 117, 3) := dcw_180 (by decide +kernel)
theorem dX2_oddsOverWithin_43 : decode cX2_oddsOverWithin 43 = .ok (.iload_n 2, 1) := dc1_28 (by decide +kernel)
theorem dX2_oddsOverWithin_44 : decode cX2_oddsOverWithin 44 = .ok (.dup2, 1) := dc1_92 (by decide +kernel)
theorem dX2_oddsOverWithin_45 : decode cX2_oddsOverWithin 45 = .ok (.iaload, 1) := dc1_46 (by decide +kernel)
theorem dX2_oddsOverWithin_46 : decode cX2_oddsOverWithin 46 = .ok (.iconst 1, 1) := dc1_4 (by decide +kernel)
theorem dX2_oddsOverWithin_47 : decode cX2_oddsOverWithin 47 = .ok (.iadd, 1) := dc1_96 (by decide +kernel)
theorem dX2_oddsOverWithin_48 : decode cX2_oddsOverWithin 48 = .ok (.iastore, 1) := dc1_79 (by decide +kernel)
theorem dX2_oddsOverWithin_49 : decode cX2_oddsOverWithin 49 = .ok (.iconst 0, 1) := dc1_3 (by decide +kernel)
theorem dX2_oddsOverWithin_50 : decode cX2_oddsOverWithin 50 = .ok (.istore 6, 2) := dcu_54 (by decide +kernel)
theorem dX2_oddsOverWithin_52 : decode cX2_oddsOverWithin 52 = .ok (.iconst 0, 1) := dc1_3 (by decide +kernel)
theorem dX2_oddsOverWithin_53 : decode cX2_oddsOverWithin 53 = .ok (.istore 7, 2) := dcu_54 (by decide +kernel)
theorem dX2_oddsOverWithin_55 : decode cX2_oddsOverWithin 55 = .ok (.iload 7, 2) := dcu_21 (by decide +kernel)
theorem dX2_oddsOverWithin_57 : decode cX2_oddsOverWithin 57 = .ok (.aload_n 0, 1) := dc1_42 (by decide +kernel)
theorem dX2_oddsOverWithin_58 : decode cX2_oddsOverWithin 58 = .ok (.getfield 24, 3) := dcw_180 (by decide +kernel)
theorem dX2_oddsOverWithin_61 : decode cX2_oddsOverWithin 61 = .ok (.getfield 44, 3) := dcw_180 (by decide +kernel)
theorem dX2_oddsOverWithin_64 : decode cX2_oddsOverWithin 64 = .ok (.if_icmp .ge 100, 3) := dcs_162 (n := 100) (by decide +kernel)
theorem dX2_oddsOverWithin_67 : decode cX2_oddsOverWithin 67 = .ok (.iload 4, 2) := dcu_21 (by decide +kernel)
theorem dX2_oddsOverWithin_69 : decode cX2_oddsOverWithin 69 = .ok (.iload 7, 2) := dcu_21 (by decide +kernel)
theorem dX2_oddsOverWithin_71 : decode cX2_oddsOverWithin 71 = .ok (.invokestatic 65, 3) := dcw_184 (by decide +kernel)
theorem dX2_oddsOverWithin_74 : decode cX2_oddsOverWithin 74 = .ok (.istore 8, 2) := dcu_54 (by decide +kernel)
theorem dX2_oddsOverWithin_76 : decode cX2_oddsOverWithin 76 = .ok (.aload_n 0, 1) := dc1_42 (by decide +kernel)
theorem dX2_oddsOverWithin_77 : decode cX2_oddsOverWithin 77 = .ok (.aload_n 1, 1) := dc1_43 (by decide +kernel)
theorem dX2_oddsOverWithin_78 : decode cX2_oddsOverWithin 78 = .ok (.iload 7, 2) := dcu_21 (by decide +kernel)
theorem dX2_oddsOverWithin_80 : decode cX2_oddsOverWithin 80 = .ok (.invokevirtual 50, 3) := dcw_182 (by decide +kernel)
theorem dX2_oddsOverWithin_83 : decode cX2_oddsOverWithin 83 = .ok (.iconst 1, 1) := dc1_4 (by decide +kernel)
theorem dX2_oddsOverWithin_84 : decode cX2_oddsOverWithin 84 = .ok (.if_icmp .le 45, 3) := dcs_164 (n := 45) (by decide +kernel)
theorem dX2_oddsOverWithin_87 : decode cX2_oddsOverWithin 87 = .ok (.aload_n 1, 1) := dc1_43 (by decide +kernel)
theorem dX2_oddsOverWithin_88 : decode cX2_oddsOverWithin 88 = .ok (.getfield 122, 3) := dcw_180 (by decide +kernel)
theorem dX2_oddsOverWithin_91 : decode cX2_oddsOverWithin 91 = .ok (.iload 7, 2) := dcu_21 (by decide +kernel)
theorem dX2_oddsOverWithin_93 : decode cX2_oddsOverWithin 93 = .ok (.dup2, 1) := dc1_92 (by decide +kernel)
theorem dX2_oddsOverWithin_94 : decode cX2_oddsOverWithin 94 = .ok (.iaload, 1) := dc1_46 (by decide +kernel)
theorem dX2_oddsOverWithin_95 : decode cX2_oddsOverWithin 95 = .ok (.iconst 1, 1) := dc1_4 (by decide +kernel)
theorem dX2_oddsOverWithin_96 : decode cX2_oddsOverWithin 96 = .ok (.iload 8, 2) := dcu_21 (by decide +kernel)
theorem dX2_oddsOverWithin_98 : decode cX2_oddsOverWithin 98 = .ok (.ishl, 1) := dc1_120 (by decide +kernel)
theorem dX2_oddsOverWithin_99 : decode cX2_oddsOverWithin 99 = .ok (.ixor, 1) := dc1_130 (by decide +kernel)
theorem dX2_oddsOverWithin_100 : decode cX2_oddsOverWithin 100 = .ok (.iastore, 1) := dc1_79 (by decide +kernel)
theorem dX2_oddsOverWithin_101 : decode cX2_oddsOverWithin 101 = .ok (.iload 5, 2) := dcu_21 (by decide +kernel)
theorem dX2_oddsOverWithin_103 : decode cX2_oddsOverWithin 103 = .ok (.aload_n 0, 1) := dc1_42 (by decide +kernel)
theorem dX2_oddsOverWithin_104 : decode cX2_oddsOverWithin 104 = .ok (.aload_n 1, 1) := dc1_43 (by decide +kernel)
theorem dX2_oddsOverWithin_105 : decode cX2_oddsOverWithin 105 = .ok (.iload_n 2, 1) := dc1_28 (by decide +kernel)
theorem dX2_oddsOverWithin_106 : decode cX2_oddsOverWithin 106 = .ok (.iload_n 3, 1) := dc1_29 (by decide +kernel)
theorem dX2_oddsOverWithin_107 : decode cX2_oddsOverWithin 107 = .ok (.iconst 1, 1) := dc1_4 (by decide +kernel)
theorem dX2_oddsOverWithin_108 : decode cX2_oddsOverWithin 108 = .ok (.isub, 1) := dc1_100 (by decide +kernel)
theorem dX2_oddsOverWithin_109 : decode cX2_oddsOverWithin 109 = .ok (.invokevirtual 125, 3) := dcw_182 (by decide +kernel)
theorem dX2_oddsOverWithin_112 : decode cX2_oddsOverWithin 112 = .ok (.iadd, 1) := dc1_96 (by decide +kernel)
theorem dX2_oddsOverWithin_113 : decode cX2_oddsOverWithin 113 = .ok (.istore 5, 2) := dcu_54 (by decide +kernel)
theorem dX2_oddsOverWithin_115 : decode cX2_oddsOverWithin 115 = .ok (.aload_n 1, 1) := dc1_43 (by decide +kernel)
theorem dX2_oddsOverWithin_116 : decode cX2_oddsOverWithin 116 = .ok (.getfield 122, 3) := dcw_180 (by decide +kernel)
theorem dX2_oddsOverWithin_119 : decode cX2_oddsOverWithin 119 = .ok (.iload 7, 2) := dcu_21 (by decide +kernel)
theorem dX2_oddsOverWithin_121 : decode cX2_oddsOverWithin 121 = .ok (.dup2, 1) := dc1_92 (by decide +kernel)
theorem dX2_oddsOverWithin_122 : decode cX2_oddsOverWithin 122 = .ok (.iaload, 1) := dc1_46 (by decide +kernel)
theorem dX2_oddsOverWithin_123 : decode cX2_oddsOverWithin 123 = .ok (.iconst 1, 1) := dc1_4 (by decide +kernel)
theorem dX2_oddsOverWithin_124 : decode cX2_oddsOverWithin 124 = .ok (.iload 8, 2) := dcu_21 (by decide +kernel)
theorem dX2_oddsOverWithin_126 : decode cX2_oddsOverWithin 126 = .ok (.ishl, 1) := dc1_120 (by decide +kernel)
theorem dX2_oddsOverWithin_127 : decode cX2_oddsOverWithin 127 = .ok (.ixor, 1) := dc1_130 (by decide +kernel)
theorem dX2_oddsOverWithin_128 : decode cX2_oddsOverWithin 128 = .ok (.iastore, 1) := dc1_79 (by decide +kernel)
theorem dX2_oddsOverWithin_129 : decode cX2_oddsOverWithin 129 = .ok (.aload_n 1, 1) := dc1_43 (by decide +kernel)
theorem dX2_oddsOverWithin_130 : decode cX2_oddsOverWithin 130 = .ok (.getfield 128, 3) := dcw_180 (by decide +kernel)
theorem dX2_oddsOverWithin_133 : decode cX2_oddsOverWithin 133 = .ok (.iload 7, 2) := dcu_21 (by decide +kernel)
theorem dX2_oddsOverWithin_135 : decode cX2_oddsOverWithin 135 = .ok (.iaload, 1) := dc1_46 (by decide +kernel)
theorem dX2_oddsOverWithin_136 : decode cX2_oddsOverWithin 136 = .ok (.iconst (-1), 1) := dc1_2 (by decide +kernel)
theorem dX2_oddsOverWithin_137 : decode cX2_oddsOverWithin 137 = .ok (.if_icmp .ne 21, 3) := dcs_160 (n := 21) (by decide +kernel)
theorem dX2_oddsOverWithin_140 : decode cX2_oddsOverWithin 140 = .ok (.aload_n 1, 1) := dc1_43 (by decide +kernel)
theorem dX2_oddsOverWithin_141 : decode cX2_oddsOverWithin 141 = .ok (.getfield 128, 3) := dcw_180 (by decide +kernel)
theorem dX2_oddsOverWithin_144 : decode cX2_oddsOverWithin 144 = .ok (.iload 7, 2) := dcu_21 (by decide +kernel)
theorem dX2_oddsOverWithin_146 : decode cX2_oddsOverWithin 146 = .ok (.iload 8, 2) := dcu_21 (by decide +kernel)
theorem dX2_oddsOverWithin_148 : decode cX2_oddsOverWithin 148 = .ok (.iastore, 1) := dc1_79 (by decide +kernel)
theorem dX2_oddsOverWithin_149 : decode cX2_oddsOverWithin 149 = .ok (.iload 6, 2) := dcu_21 (by decide +kernel)
theorem dX2_oddsOverWithin_151 : decode cX2_oddsOverWithin 151 = .ok (.iconst 1, 1) := dc1_4 (by decide +kernel)
theorem dX2_oddsOverWithin_152 : decode cX2_oddsOverWithin 152 = .ok (.iload 7, 2) := dcu_21 (by decide +kernel)
theorem dX2_oddsOverWithin_154 : decode cX2_oddsOverWithin 154 = .ok (.ishl, 1) := dc1_120 (by decide +kernel)
theorem dX2_oddsOverWithin_155 : decode cX2_oddsOverWithin 155 = .ok (.ior, 1) := dc1_128 (by decide +kernel)
theorem dX2_oddsOverWithin_156 : decode cX2_oddsOverWithin 156 = .ok (.istore 6, 2) := dcu_54 (by decide +kernel)
theorem dX2_oddsOverWithin_158 : decode cX2_oddsOverWithin 158 = .ok (.iinc 7 1, 3) := dc_iinc (m := 1) (by decide +kernel)
theorem dX2_oddsOverWithin_161 : decode cX2_oddsOverWithin 161 = .ok (.goto (-106), 3) := dcs_167 (n := 65430) (by decide +kernel)
theorem dX2_oddsOverWithin_164 : decode cX2_oddsOverWithin 164 = .ok (.aload_n 0, 1) := dc1_42 (by decide +kernel)
theorem dX2_oddsOverWithin_165 : decode cX2_oddsOverWithin 165 = .ok (.aload_n 1, 1) := dc1_43 (by decide +kernel)
theorem dX2_oddsOverWithin_166 : decode cX2_oddsOverWithin 166 = .ok (.iload 6, 2) := dcu_21 (by decide +kernel)
theorem dX2_oddsOverWithin_168 : decode cX2_oddsOverWithin 168 = .ok (.invokevirtual 131, 3) := dcw_182 (by decide +kernel)
theorem dX2_oddsOverWithin_171 : decode cX2_oddsOverWithin 171 = .ok (.aload_n 1, 1) := dc1_43 (by decide +kernel)
theorem dX2_oddsOverWithin_172 : decode cX2_oddsOverWithin 172 = .ok (.getfield 117, 3) := dcw_180 (by decide +kernel)
theorem dX2_oddsOverWithin_175 : decode cX2_oddsOverWithin 175 = .ok (.iload_n 2, 1) := dc1_28 (by decide +kernel)
theorem dX2_oddsOverWithin_176 : decode cX2_oddsOverWithin 176 = .ok (.dup2, 1) := dc1_92 (by decide +kernel)
theorem dX2_oddsOverWithin_177 : decode cX2_oddsOverWithin 177 = .ok (.iaload, 1) := dc1_46 (by decide +kernel)
theorem dX2_oddsOverWithin_178 : decode cX2_oddsOverWithin 178 = .ok (.iconst 1, 1) := dc1_4 (by decide +kernel)
theorem dX2_oddsOverWithin_179 : decode cX2_oddsOverWithin 179 = .ok (.isub, 1) := dc1_100 (by decide +kernel)
theorem dX2_oddsOverWithin_180 : decode cX2_oddsOverWithin 180 = .ok (.iastore, 1) := dc1_79 (by decide +kernel)
theorem dX2_oddsOverWithin_181 : decode cX2_oddsOverWithin 181 = .ok (.iload 5, 2) := dcu_21 (by decide +kernel)
theorem dX2_oddsOverWithin_183 : decode cX2_oddsOverWithin 183 = .ok (.ireturn, 1) := dc1_172 (by decide +kernel)
theorem ggX4_readPart_X4_readSum : GoodIn wsX4_readPart wsX4_readSum := gi_sub (fun w h => List.mem_cons_of_mem _ (List.mem_append_left _ (List.mem_append_left _ (List.mem_append_left _ (List.mem_append_left _ (List.mem_append_right _ (List.mem_append_left _ h))))))) gd_wsX4_readSum
set_option maxRecDepth 20000 in
theorem gX4_readPart_X4_readSum : GoodIn wsX4_readPart (wsV RX4 131 RX4 yX4_readSum wsX4_readSum) := goodIn_app (goodIn_r _ [2, 3, 4, 5] (by decide +kernel) (by decide +kernel)) ggX4_readPart_X4_readSum
theorem ggX4_readPart_X1_endPart : GoodIn wsX4_readPart wsX1_endPart := gi_sub (fun w h => List.mem_cons_of_mem _ (List.mem_append_left _ (List.mem_append_left _ (List.mem_append_left _ (List.mem_append_left _ (List.mem_append_right _ (List.mem_append_right _ (List.mem_append_left _ h)))))))) gd_wsX1_endPart
set_option maxRecDepth 20000 in
theorem gX4_readPart_X1_endPart_n134 : GoodIn wsX4_readPart (wsX1_endPart) := ggX4_readPart_X1_endPart
theorem ggX4_readPart_X4_take : GoodIn wsX4_readPart wsX4_take := gi_sub (fun w h => List.mem_cons_of_mem _ (List.mem_append_left _ (List.mem_append_left _ (List.mem_append_left _ (List.mem_append_left _ (List.mem_append_right _ (List.mem_append_right _ (List.mem_append_right _ h)))))))) gd_wsX4_take
set_option maxRecDepth 20000 in
theorem gX4_readPart_X4_take : GoodIn wsX4_readPart (wsV RX4 81 RX4 yX4_take wsX4_take) := goodIn_app (goodIn_r _ [6, 7, 8, 5] (by decide +kernel) (by decide +kernel)) ggX4_readPart_X4_take
theorem dX4_readPart_0 : decode cX4_readPart 0 = .ok (.aload_n 0, 1) := dc1_42 (by decide +kernel)
theorem dX4_readPart_1 : decode cX4_readPart 1 = .ok (.iconst 0, 1) := dc1_3 (by decide +kernel)
theorem dX4_readPart_2 : decode cX4_readPart 2 = .ok (.invokevirtual 131, 3) := dcw_182 (by decide +kernel)
theorem dX4_readPart_5 : decode cX4_readPart 5 = .ok (.aload_n 0, 1) := dc1_42 (by decide +kernel)
theorem dX4_readPart_6 : decode cX4_readPart 6 = .ok (.getfield 12, 3) := dcw_180 (by decide +kernel)
theorem dX4_readPart_9 : decode cX4_readPart 9 = .ok (.getfield 119, 3) := dcw_180 (by decide +kernel)
theorem dX4_readPart_12 : decode cX4_readPart 12 = .ok (.invokevirtual 134, 3) := dcw_182 (by decide +kernel)
theorem dX4_readPart_15 : decode cX4_readPart 15 = .ok (.aload_n 0, 1) := dc1_42 (by decide +kernel)
theorem dX4_readPart_16 : decode cX4_readPart 16 = .ok (.iload_n 1, 1) := dc1_27 (by decide +kernel)
theorem dX4_readPart_17 : decode cX4_readPart 17 = .ok (.invokevirtual 81, 3) := dcw_182 (by decide +kernel)
theorem dX4_readPart_20 : decode cX4_readPart 20 = .ok (.return_, 1) := dc1_177 (by decide +kernel)
theorem ggX4_readSum_X4_readProduct : GoodIn wsX4_readSum wsX4_readProduct := gi_sub (fun w h => (List.mem_cons.mp h).elim (fun e => by subst e; exact List.mem_cons_of_mem _ (List.mem_append_left _ (List.mem_append_left _ (List.mem_append_left _ (List.mem_append_left _ (List.mem_append_left _ (List.mem_of_getElem? (i := 29) rfl))))))) (fun h => List.mem_cons_of_mem _ h)) gd_wsX4_readProduct
set_option maxRecDepth 20000 in
theorem gX4_readSum_X4_readProduct : GoodIn wsX4_readSum (wsV RX4 137 RX4 yX4_readProduct wsX4_readProduct) := goodIn_app (goodIn_r _ [20, 21, 22, 7] (by decide +kernel) (by decide +kernel)) ggX4_readSum_X4_readProduct
theorem ggX4_readSum_X4_isAt : GoodIn wsX4_readSum wsX4_isAt := gi_sub (fun w h => List.mem_cons_of_mem _ (List.mem_append_left _ (List.mem_append_left _ (List.mem_append_left _ (List.mem_append_left _ (List.mem_append_right _ (List.mem_append_left _ h))))))) gd_wsX4_isAt
set_option maxRecDepth 20000 in
theorem gX4_readSum_X4_isAt : GoodIn wsX4_readSum (wsV RX4 53 RX4 yX4_isAt wsX4_isAt) := goodIn_app (goodIn_r _ [8, 9, 10, 7] (by decide +kernel) (by decide +kernel)) ggX4_readSum_X4_isAt
theorem ggX4_readSum_X4_take : GoodIn wsX4_readSum wsX4_take := gi_sub (fun w h => List.mem_cons_of_mem _ (List.mem_append_left _ (List.mem_append_left _ (List.mem_append_left _ (List.mem_append_left _ (List.mem_append_right _ (List.mem_append_right _ (List.mem_append_left _ h)))))))) gd_wsX4_take
set_option maxRecDepth 20000 in
theorem gX4_readSum_X4_take : GoodIn wsX4_readSum (wsV RX4 81 RX4 yX4_take wsX4_take) := goodIn_app (goodIn_r _ [11, 12, 13, 7] (by decide +kernel) (by decide +kernel)) ggX4_readSum_X4_take
theorem ggX4_readSum_X1_putSign : GoodIn wsX4_readSum wsX1_putSign := gi_sub (fun w h => List.mem_cons_of_mem _ (List.mem_append_left _ (List.mem_append_left _ (List.mem_append_left _ (List.mem_append_left _ (List.mem_append_right _ (List.mem_append_right _ (List.mem_append_right _ (List.mem_append_left _ h))))))))) gd_wsX1_putSign
set_option maxRecDepth 20000 in
theorem gX4_readSum_X1_putSign_n140 : GoodIn wsX4_readSum (wsX1_putSign) := ggX4_readSum_X1_putSign
theorem dX4_readSum_0 : decode cX4_readSum 0 = .ok (.aload_n 0, 1) := dc1_42 (by decide +kernel)
theorem dX4_readSum_1 : decode cX4_readSum 1 = .ok (.iload_n 1, 1) := dc1_27 (by decide +kernel)
theorem dX4_readSum_2 : decode cX4_readSum 2 = .ok (.invokevirtual 137, 3) := dcw_182 (by decide +kernel)
theorem dX4_readSum_5 : decode cX4_readSum 5 = .ok (.iconst 0, 1) := dc1_3 (by decide +kernel)
theorem dX4_readSum_6 : decode cX4_readSum 6 = .ok (.istore_n 2, 1) := dc1_61 (by decide +kernel)
theorem dX4_readSum_7 : decode cX4_readSum 7 = .ok (.iload_n 2, 1) := dc1_28 (by decide +kernel)
theorem dX4_readSum_8 : decode cX4_readSum 8 = .ok (.sipush 400, 3) := dcs_17 (n := 400) (by decide +kernel)
theorem dX4_readSum_11 : decode cX4_readSum 11 = .ok (.if_icmp .ge 61, 3) := dcs_162 (n := 61) (by decide +kernel)
theorem dX4_readSum_14 : decode cX4_readSum 14 = .ok (.aload_n 0, 1) := dc1_42 (by decide +kernel)
theorem dX4_readSum_15 : decode cX4_readSum 15 = .ok (.bipush 43, 2) := dcb_16 (n := 43) (by decide +kernel)
theorem dX4_readSum_17 : decode cX4_readSum 17 = .ok (.invokevirtual 53, 3) := dcw_182 (by decide +kernel)
theorem dX4_readSum_20 : decode cX4_readSum 20 = .ok (.ifCond .ne 12, 3) := dcs_154 (n := 12) (by decide +kernel)
theorem dX4_readSum_23 : decode cX4_readSum 23 = .ok (.aload_n 0, 1) := dc1_42 (by decide +kernel)
theorem dX4_readSum_24 : decode cX4_readSum 24 = .ok (.bipush 45, 2) := dcb_16 (n := 45) (by decide +kernel)
theorem dX4_readSum_26 : decode cX4_readSum 26 = .ok (.invokevirtual 53, 3) := dcw_182 (by decide +kernel)
theorem dX4_readSum_29 : decode cX4_readSum 29 = .ok (.ifCond .eq 43, 3) := dcs_153 (n := 43) (by decide +kernel)
theorem dX4_readSum_32 : decode cX4_readSum 32 = .ok (.aload_n 0, 1) := dc1_42 (by decide +kernel)
theorem dX4_readSum_33 : decode cX4_readSum 33 = .ok (.getfield 31, 3) := dcw_180 (by decide +kernel)
theorem dX4_readSum_36 : decode cX4_readSum 36 = .ok (.getfield 63, 3) := dcw_180 (by decide +kernel)
theorem dX4_readSum_39 : decode cX4_readSum 39 = .ok (.aload_n 0, 1) := dc1_42 (by decide +kernel)
theorem dX4_readSum_40 : decode cX4_readSum 40 = .ok (.getfield 38, 3) := dcw_180 (by decide +kernel)
theorem dX4_readSum_43 : decode cX4_readSum 43 = .ok (.iaload, 1) := dc1_46 (by decide +kernel)
theorem dX4_readSum_44 : decode cX4_readSum 44 = .ok (.istore_n 3, 1) := dc1_62 (by decide +kernel)
theorem dX4_readSum_45 : decode cX4_readSum 45 = .ok (.aload_n 0, 1) := dc1_42 (by decide +kernel)
theorem dX4_readSum_46 : decode cX4_readSum 46 = .ok (.iload_n 3, 1) := dc1_29 (by decide +kernel)
theorem dX4_readSum_47 : decode cX4_readSum 47 = .ok (.invokevirtual 81, 3) := dcw_182 (by decide +kernel)
theorem dX4_readSum_50 : decode cX4_readSum 50 = .ok (.aload_n 0, 1) := dc1_42 (by decide +kernel)
theorem dX4_readSum_51 : decode cX4_readSum 51 = .ok (.iload_n 1, 1) := dc1_27 (by decide +kernel)
theorem dX4_readSum_52 : decode cX4_readSum 52 = .ok (.invokevirtual 137, 3) := dcw_182 (by decide +kernel)
theorem dX4_readSum_55 : decode cX4_readSum 55 = .ok (.aload_n 0, 1) := dc1_42 (by decide +kernel)
theorem dX4_readSum_56 : decode cX4_readSum 56 = .ok (.getfield 12, 3) := dcw_180 (by decide +kernel)
theorem dX4_readSum_59 : decode cX4_readSum 59 = .ok (.getfield 119, 3) := dcw_180 (by decide +kernel)
theorem dX4_readSum_62 : decode cX4_readSum 62 = .ok (.iload_n 3, 1) := dc1_29 (by decide +kernel)
theorem dX4_readSum_63 : decode cX4_readSum 63 = .ok (.invokevirtual 140, 3) := dcw_182 (by decide +kernel)
theorem dX4_readSum_66 : decode cX4_readSum 66 = .ok (.iinc 2 1, 3) := dc_iinc (m := 1) (by decide +kernel)
theorem dX4_readSum_69 : decode cX4_readSum 69 = .ok (.goto (-62), 3) := dcs_167 (n := 65474) (by decide +kernel)
theorem dX4_readSum_72 : decode cX4_readSum 72 = .ok (.return_, 1) := dc1_177 (by decide +kernel)
theorem ggX10_go_X10_isHere : GoodIn wsX10_go wsX10_isHere := gi_sub (fun w h => List.mem_cons_of_mem _ (List.mem_append_left _ (List.mem_append_left _ (List.mem_append_left _ (List.mem_append_left _ (List.mem_append_left _ (List.mem_append_left _ (List.mem_append_right _ (List.mem_append_left _ h))))))))) gd_wsX10_isHere
set_option maxRecDepth 20000 in
theorem gX10_go_X10_isHere : GoodIn wsX10_go (wsV RX10 164 RX10 yX10_isHere wsX10_isHere) := goodIn_app (goodIn_r _ [5, 6, 7, 8] (by decide +kernel) (by decide +kernel)) ggX10_go_X10_isHere
theorem ggX10_go_X5_hasGuess : GoodIn wsX10_go wsX5_hasGuess := gi_sub (fun w h => List.mem_cons_of_mem _ (List.mem_append_left _ (List.mem_append_left _ (List.mem_append_left _ (List.mem_append_left _ (List.mem_append_left _ (List.mem_append_left _ (List.mem_append_right _ (List.mem_append_right _ (List.mem_append_left _ h)))))))))) gd_wsX5_hasGuess
set_option maxRecDepth 20000 in
theorem gX10_go_X5_hasGuess_n170 : GoodIn wsX10_go (wsX5_hasGuess) := ggX10_go_X5_hasGuess
theorem ggX10_go_X3_remember : GoodIn wsX10_go wsX3_remember := gi_sub (fun w h => List.mem_cons_of_mem _ (List.mem_append_left _ (List.mem_append_left _ (List.mem_append_left _ (List.mem_append_left _ (List.mem_append_left _ (List.mem_append_left _ (List.mem_append_right _ (List.mem_append_right _ (List.mem_append_right _ (List.mem_append_left _ h))))))))))) gd_wsX3_remember
set_option maxRecDepth 20000 in
theorem gX10_go_X3_remember_n173 : GoodIn wsX10_go (wsX3_remember) := ggX10_go_X3_remember
theorem ggX10_go_X0_sendBy : GoodIn wsX10_go wsX0_sendBy := gi_sub (fun w h => List.mem_cons_of_mem _ (List.mem_append_left _ (List.mem_append_left _ (List.mem_append_left _ (List.mem_append_left _ (List.mem_append_left _ (List.mem_append_left _ (List.mem_append_right _ (List.mem_append_right _ (List.mem_append_right _ (List.mem_append_right _ h))))))))))) gd_wsX0_sendBy
set_option maxRecDepth 20000 in
theorem gX10_go_X0_sendBy_n177 : GoodIn wsX10_go (wsX0_sendBy) := ggX10_go_X0_sendBy
theorem dX10_go_0 : decode cX10_go 0 = .ok (.aload_n 0, 1) := dc1_42 (by decide +kernel)
theorem dX10_go_1 : decode cX10_go 1 = .ok (.iload_n 1, 1) := dc1_27 (by decide +kernel)
theorem dX10_go_2 : decode cX10_go 2 = .ok (.invokevirtual 164, 3) := dcw_182 (by decide +kernel)
theorem dX10_go_5 : decode cX10_go 5 = .ok (.ifCond .eq 24, 3) := dcs_153 (n := 24) (by decide +kernel)
theorem dX10_go_8 : decode cX10_go 8 = .ok (.aload_n 0, 1) := dc1_42 (by decide +kernel)
theorem dX10_go_9 : decode cX10_go 9 = .ok (.getfield 19, 3) := dcw_180 (by decide +kernel)
theorem dX10_go_12 : decode cX10_go 12 = .ok (.getfield 167, 3) := dcw_180 (by decide +kernel)
theorem dX10_go_15 : decode cX10_go 15 = .ok (.ifCond .eq 14, 3) := dcs_153 (n := 14) (by decide +kernel)
theorem dX10_go_18 : decode cX10_go 18 = .ok (.aload_n 0, 1) := dc1_42 (by decide +kernel)
theorem dX10_go_19 : decode cX10_go 19 = .ok (.getfield 19, 3) := dcw_180 (by decide +kernel)
theorem dX10_go_22 : decode cX10_go 22 = .ok (.iload_n 2, 1) := dc1_28 (by decide +kernel)
theorem dX10_go_23 : decode cX10_go 23 = .ok (.invokevirtual 170, 3) := dcw_182 (by decide +kernel)
theorem dX10_go_26 : decode cX10_go 26 = .ok (.ifCond .ne 5, 3) := dcs_154 (n := 5) (by decide +kernel)
theorem dX10_go_29 : decode cX10_go 29 = .ok (.iconst (-1), 1) := dc1_2 (by decide +kernel)
theorem dX10_go_30 : decode cX10_go 30 = .ok (.ireturn, 1) := dc1_172 (by decide +kernel)
theorem dX10_go_31 : decode cX10_go 31 = .ok (.aload_n 0, 1) := dc1_42 (by decide +kernel)
theorem dX10_go_32 : decode cX10_go 32 = .ok (.getfield 45, 3) := dcw_180 (by decide +kernel)
theorem dX10_go_35 : decode cX10_go 35 = .ok (.aload_n 0, 1) := dc1_42 (by decide +kernel)
theorem dX10_go_36 : decode cX10_go 36 = .ok (.getfield 35, 3) := dcw_180 (by decide +kernel)
theorem dX10_go_39 : decode cX10_go 39 = .ok (.invokevirtual 173, 3) := dcw_182 (by decide +kernel)
theorem dX10_go_42 : decode cX10_go 42 = .ok (.aload_n 0, 1) := dc1_42 (by decide +kernel)
theorem dX10_go_43 : decode cX10_go 43 = .ok (.getfield 54, 3) := dcw_180 (by decide +kernel)
theorem dX10_go_46 : decode cX10_go 46 = .ok (.aload_n 0, 1) := dc1_42 (by decide +kernel)
theorem dX10_go_47 : decode cX10_go 47 = .ok (.getfield 35, 3) := dcw_180 (by decide +kernel)
theorem dX10_go_50 : decode cX10_go 50 = .ok (.iload_n 1, 1) := dc1_27 (by decide +kernel)
theorem dX10_go_51 : decode cX10_go 51 = .ok (.iload_n 2, 1) := dc1_28 (by decide +kernel)
theorem dX10_go_52 : decode cX10_go 52 = .ok (.invokevirtual 177, 3) := dcw_182 (by decide +kernel)
theorem dX10_go_55 : decode cX10_go 55 = .ok (.ireturn, 1) := dc1_172 (by decide +kernel)
theorem ggX10_years_X3_remember : GoodIn wsX10_years wsX3_remember := gi_sub (fun w h => List.mem_cons_of_mem _ (List.mem_append_left _ (List.mem_append_left _ (List.mem_append_left _ (List.mem_append_left _ (List.mem_append_left _ (List.mem_append_left _ (List.mem_append_right _ (List.mem_append_left _ h))))))))) gd_wsX3_remember
set_option maxRecDepth 20000 in
theorem gX10_years_X3_remember_n173 : GoodIn wsX10_years (wsX3_remember) := ggX10_years_X3_remember
theorem ggX10_years_X0_passYears : GoodIn wsX10_years wsX0_passYears := gi_sub (fun w h => List.mem_cons_of_mem _ (List.mem_append_left _ (List.mem_append_left _ (List.mem_append_left _ (List.mem_append_left _ (List.mem_append_left _ (List.mem_append_left _ (List.mem_append_right _ (List.mem_append_right _ h))))))))) gd_wsX0_passYears
set_option maxRecDepth 20000 in
theorem gX10_years_X0_passYears_n185 : GoodIn wsX10_years (wsX0_passYears) := ggX10_years_X0_passYears
theorem dX10_years_0 : decode cX10_years 0 = .ok (.iload_n 1, 1) := dc1_27 (by decide +kernel)
theorem dX10_years_1 : decode cX10_years 1 = .ok (.ifCond .lt 9, 3) := dcs_155 (n := 9) (by decide +kernel)
theorem dX10_years_4 : decode cX10_years 4 = .ok (.iload_n 1, 1) := dc1_27 (by decide +kernel)
theorem dX10_years_5 : decode cX10_years 5 = .ok (.bipush 40, 2) := dcb_16 (n := 40) (by decide +kernel)
theorem dX10_years_7 : decode cX10_years 7 = .ok (.if_icmp .le 5, 3) := dcs_164 (n := 5) (by decide +kernel)
theorem dX10_years_10 : decode cX10_years 10 = .ok (.iconst (-1), 1) := dc1_2 (by decide +kernel)
theorem dX10_years_11 : decode cX10_years 11 = .ok (.ireturn, 1) := dc1_172 (by decide +kernel)
theorem dX10_years_12 : decode cX10_years 12 = .ok (.iload_n 1, 1) := dc1_27 (by decide +kernel)
theorem dX10_years_13 : decode cX10_years 13 = .ok (.ifCond .le 26, 3) := dcs_158 (n := 26) (by decide +kernel)
theorem dX10_years_16 : decode cX10_years 16 = .ok (.aload_n 0, 1) := dc1_42 (by decide +kernel)
theorem dX10_years_17 : decode cX10_years 17 = .ok (.getfield 45, 3) := dcw_180 (by decide +kernel)
theorem dX10_years_20 : decode cX10_years 20 = .ok (.aload_n 0, 1) := dc1_42 (by decide +kernel)
theorem dX10_years_21 : decode cX10_years 21 = .ok (.getfield 35, 3) := dcw_180 (by decide +kernel)
theorem dX10_years_24 : decode cX10_years 24 = .ok (.invokevirtual 173, 3) := dcw_182 (by decide +kernel)
theorem dX10_years_27 : decode cX10_years 27 = .ok (.aload_n 0, 1) := dc1_42 (by decide +kernel)
theorem dX10_years_28 : decode cX10_years 28 = .ok (.getfield 54, 3) := dcw_180 (by decide +kernel)
theorem dX10_years_31 : decode cX10_years 31 = .ok (.aload_n 0, 1) := dc1_42 (by decide +kernel)
theorem dX10_years_32 : decode cX10_years 32 = .ok (.getfield 35, 3) := dcw_180 (by decide +kernel)
theorem dX10_years_35 : decode cX10_years 35 = .ok (.iload_n 1, 1) := dc1_27 (by decide +kernel)
theorem dX10_years_36 : decode cX10_years 36 = .ok (.invokevirtual 185, 3) := dcw_182 (by decide +kernel)
theorem dX10_years_39 : decode cX10_years 39 = .ok (.aload_n 0, 1) := dc1_42 (by decide +kernel)
theorem dX10_years_40 : decode cX10_years 40 = .ok (.getfield 35, 3) := dcw_180 (by decide +kernel)
theorem dX10_years_43 : decode cX10_years 43 = .ok (.getfield 189, 3) := dcw_180 (by decide +kernel)
theorem dX10_years_46 : decode cX10_years 46 = .ok (.ireturn, 1) := dc1_172 (by decide +kernel)
theorem LX4_readSum_12 : Cond.fieldLink RX4 12 "GuessFerry$Reader" "draft" "LGuessFerry$Sound;" ∈ wsX4_readSum := (List.mem_cons_of_mem _ (List.mem_append_left _ (List.mem_append_left _ (List.mem_append_left _ (List.mem_append_left _ (List.mem_append_left _ (List.mem_of_getElem? (i := 2) rfl)))))))
theorem LX4_readSum_31 : Cond.fieldLink RX4 31 "GuessFerry$Reader" "tokens" "LGuessFerry$Tokens;" ∈ wsX4_readSum := (List.mem_cons_of_mem _ (List.mem_append_left _ (List.mem_append_left _ (List.mem_append_left _ (List.mem_append_left _ (List.mem_append_left _ (List.mem_of_getElem? (i := 0) rfl)))))))
theorem LX4_readSum_38 : Cond.fieldLink RX4 38 "GuessFerry$Reader" "at" "I" ∈ wsX4_readSum := (List.mem_cons_of_mem _ (List.mem_append_left _ (List.mem_append_left _ (List.mem_append_left _ (List.mem_append_left _ (List.mem_append_left _ (List.mem_of_getElem? (i := 1) rfl)))))))
theorem LX4_readSum_E_X1_putSign : Cond.selects RX1 yX1_putSign yX1_putSign ∈ wsX4_readSum := (List.mem_cons_of_mem _ (List.mem_append_left _ (List.mem_append_left _ (List.mem_append_left _ (List.mem_append_left _ (List.mem_append_left _ (List.mem_of_getElem? (i := 18) rfl)))))))
theorem LX4_readSum_I_X1 : Cond.initialized RX1 ∈ wsX4_readSum := (List.mem_cons_of_mem _ (List.mem_append_left _ (List.mem_append_left _ (List.mem_append_left _ (List.mem_append_left _ (List.mem_append_left _ (List.mem_of_getElem? (i := 17) rfl)))))))
theorem LX4_readSum_N_X1_putSign : Cond.instanceMethod yX1_putSign ∈ wsX4_readSum := (List.mem_cons_of_mem _ (List.mem_append_left _ (List.mem_append_left _ (List.mem_append_left _ (List.mem_append_left _ (List.mem_append_left _ (List.mem_of_getElem? (i := 16) rfl)))))))
theorem inX4_readSum_X4 : ∀ w ∈ u_ws RX4 TX4 8, w ∈ wsX4_readSum := fun w h => (List.mem_cons_of_mem _ (List.mem_append_left _ (List.mem_append_left _ (List.mem_append_left _ (List.mem_append_right _ h)))))
theorem inX4_readSum_X5 : ∀ w ∈ u_ws RX5 TX5 10, w ∈ wsX4_readSum := fun w h => (List.mem_cons_of_mem _ (List.mem_append_left _ (List.mem_append_right _ h)))
theorem inX4_readSum_X9 : ∀ w ∈ u_ws RX9 TX9 7, w ∈ wsX4_readSum := fun w h => (List.mem_cons_of_mem _ (List.mem_append_left _ (List.mem_append_left _ (List.mem_append_right _ h))))
set_option maxHeartbeats 4000000 in
set_option maxRecDepth 100000 in
theorem bkX4_readSum_32 {l : Launch} {dC : Nat → ClassId} {dI : Nat → Nat → Nat} {cB cI cJ cZ cS : ClassId} {a : Nat → Nat} {R : KS → Int32 → Option KS} {fr lo : Nat} (hR : ∀ {s : KS} {x1 : Int32} {s' : KS}, R s x1 = some s' → CV l yX4_readSum wsX4_readSum ({ frames := fr, cells := 0, slots := 0, locals := lo }) (dC, dI) (tysA cB cI cJ cZ cS) (wK cB cI cJ cZ cS a s) [.ref (a 28), .int x1] (fun u => u = wK cB cI cJ cZ cS a s')) (hfr : 2 ≤ fr) (hlo : 42 ≤ lo) {as : List Value} {s' : KS} {k7 : KS → Int32 → Int32 → Option KS} (hk7 : ∀ (s : KS) (x1 : Int32) (x2 : Int32), k7 s x1 x2 = some s' → BlkV l yX4_readSum wsX4_readSum ({ frames := fr + 3, cells := 0, slots := 0, locals := lo + 69 }) cX4_readSum 4 none (dC, dI) (tysA cB cI cJ cZ cS) as 7 (wK cB cI cJ cZ cS a s) [(0, .ref (a 28)), (1, .int x1), (2, .int x2)] [] (fun u => u = (wK cB cI cJ cZ cS a s'))) (s : KS) (x1 : Int32) (x2 : Int32) (hB : kX4_readSum_32 R k7 s x1 x2 = some s') : BlkV l yX4_readSum wsX4_readSum ({ frames := fr + 3, cells := 0, slots := 0, locals := lo + 69 }) cX4_readSum 4 none (dC, dI) (tysA cB cI cJ cZ cS) as 32 (wK cB cI cJ cZ cS a s) [(0, .ref (a 28)), (1, .int x1), (2, .int x2)] [] (fun u => u = (wK cB cI cJ cZ cS a s')) := by
  intro p e s0 m below meth c A E H locs ls hP hD hS hl
  obtain ⟨C, hr, hlocks, hA, hK, hN⟩ := id E
  obtain ⟨hx, hb, hml, hown, hts⟩ := id C
  unfold kX4_readSum_32 at hB
  refine lv_aload_n hx hb dX4_readSum_32 rfl (lv_at hl 0 rfl) ?_
  refine q_get (v := .ref (a 30)) C inX4_readSum_X4 hK hP 28 rfl rfl 0 (by decide) rfl LX4_readSum_31 rfl dX4_readSum_33 ?_
  refine q_getN (v := .ref (a 32)) C hN inX4_readSum_X9 hK hP 30 rfl rfl 2 (by decide) rfl nwF_X4_63 rfl dX4_readSum_36 ?_
  refine lv_aload_n hx hb dX4_readSum_39 rfl (lv_at hl 0 rfl) ?_
  refine q_get (v := .int (s.v 15)) C inX4_readSum_X4 hK hP 28 rfl rfl 3 (by decide) rfl LX4_readSum_38 rfl dX4_readSum_40 ?_
  obtain ⟨g1, hB⟩ := guard_inv hB
  refine q_iald (x := ((s.f 32) (Int32.toNatClampNeg (s.v 15)))) C hK hP 32 1 rfl rfl (vpb_in g1) dX4_readSum_43 rfl ?_
  refine lv_istore_n (lv' := [(3, .int ((s.f 32) (Int32.toNatClampNeg (s.v 15)))), (0, .ref (a 28)), (1, .int x1), (2, .int x2)]) hx hb dX4_readSum_44 rfl hl (by decide) rfl (fun ls hl => ?_)
  refine lv_aload_n hx hb dX4_readSum_45 rfl (lv_at hl 1 rfl) ?_
  refine lv_iload_n hx hb dX4_readSum_46 rfl (lv_at hl 0 rfl) ?_
  obtain ⟨s2, hc, hB⟩ := bindP_inv hB
  refine q_govF (va_runV (As := [.int ((s.f 32) (Int32.toNatClampNeg (s.v 15)))]) (rest := []) C (ckX4_take hc _) (cwV 1 hts gX4_readSum_X4_take rfl rfl rfl (by decide +kernel) ⟨by dsimp only; omega, by dsimp only; omega⟩) (q_preV hK hP (ci := 4) (q0 := 28) rfl rfl rfl (q_preF hN hK hP hD)) rfl rfl hl.1 rfl (lv_room (Nat.le_of_ble_eq_true rfl)) dX4_readSum_47 ⟨Nat.le_of_ble_eq_true rfl, Nat.le_of_ble_eq_true rfl⟩) hD hS hA (fun w1 H locs hw hP hD hS => ?_)
  subst hw
  refine lv_aload_n hx hb dX4_readSum_50 rfl (lv_at hl 1 rfl) ?_
  refine lv_iload_n hx hb dX4_readSum_51 rfl (lv_at hl 2 rfl) ?_
  obtain ⟨s3, hc, hB⟩ := bindP_inv hB
  refine q_govF (va_runV (As := [.int x1]) (rest := []) C (ckX4_readProduct hR (by omega) (by omega) hc _) (cwV 1 hts gX4_readSum_X4_readProduct rfl rfl rfl (by decide +kernel) ⟨by dsimp only; omega, by dsimp only; omega⟩) (q_preV hK hP (ci := 4) (q0 := 28) rfl rfl rfl (q_preF hN hK hP hD)) rfl rfl hl.1 rfl (lv_room (Nat.le_of_ble_eq_true rfl)) dX4_readSum_52 ⟨Nat.le_of_ble_eq_true rfl, Nat.le_of_ble_eq_true rfl⟩) hD hS hA (fun w1 H locs hw hP hD hS => ?_)
  subst hw
  refine lv_aload_n hx hb dX4_readSum_55 rfl (lv_at hl 1 rfl) ?_
  refine q_get (v := .ref (a 15)) C inX4_readSum_X4 hK hP 28 rfl rfl 1 (by decide) rfl LX4_readSum_12 rfl dX4_readSum_56 ?_
  refine q_getN (v := .ref (a 21)) C hN inX4_readSum_X5 hK hP 15 rfl rfl 5 (by decide) rfl nwF_X4_119 rfl dX4_readSum_59 ?_
  refine lv_iload_n hx hb dX4_readSum_62 rfl (lv_at hl 0 rfl) ?_
  obtain ⟨s4, hc, hB⟩ := bindP_inv hB
  refine q_govF (va_runVN (As := [.int ((s.f 32) (Int32.toNatClampNeg (s.v 15)))]) (rest := []) C (ckX1_putSign hc _) ⟨va_cnB 1 hts gX4_readSum_X1_putSign_n140 rfl rfl rfl (hN _ nwM_X4_140 rfl) (hts _ LX4_readSum_I_X1) (by decide +kernel) ⟨by dsimp only; omega, by dsimp only; omega⟩, hts _ LX4_readSum_N_X1_putSign, hts _ LX4_readSum_E_X1_putSign⟩ (q_preV hK hP (ci := 1) (q0 := 21) rfl rfl rfl (q_preF hN hK hP hD)) rfl rfl hl.1 rfl (lv_room (Nat.le_of_ble_eq_true rfl)) dX4_readSum_63 ⟨Nat.le_of_ble_eq_true rfl, Nat.le_of_ble_eq_true rfl⟩) hD hS hA (fun w1 H locs hw hP hD hS => ?_)
  subst hw
  refine lv_iinc (v := (x2 + 1)) (lv' := [(2, .int (x2 + 1)), (3, .int ((s.f 32) (Int32.toNatClampNeg (s.v 15)))), (0, .ref (a 28)), (1, .int x1)]) hx hb dX4_readSum_66 hl (k := 3) rfl (rfl) (by decide) rfl (fun ls hl => ?_)
  refine lv_goto (tgt := 7) hx hb dX4_readSum_69 (by decide) ?_
  exact hk7 _ _ _ hB p e s0 m below meth c A E H locs ls hP hD hS (lv_sub hl [2, 3, 0] rfl)
set_option maxHeartbeats 4000000 in
set_option maxRecDepth 100000 in
theorem bkX4_readSum_7 {l : Launch} {dC : Nat → ClassId} {dI : Nat → Nat → Nat} {cB cI cJ cZ cS : ClassId} {a : Nat → Nat} {R : KS → Int32 → Option KS} {fr lo : Nat} (hR : ∀ {s : KS} {x1 : Int32} {s' : KS}, R s x1 = some s' → CV l yX4_readSum wsX4_readSum ({ frames := fr, cells := 0, slots := 0, locals := lo }) (dC, dI) (tysA cB cI cJ cZ cS) (wK cB cI cJ cZ cS a s) [.ref (a 28), .int x1] (fun u => u = wK cB cI cJ cZ cS a s')) (hfr : 2 ≤ fr) (hlo : 42 ≤ lo) {as : List Value} {s' : KS} {k7 : KS → Int32 → Int32 → Option KS} (hk7 : ∀ (s : KS) (x1 : Int32) (x2 : Int32), k7 s x1 x2 = some s' → BlkV l yX4_readSum wsX4_readSum ({ frames := fr + 3, cells := 0, slots := 0, locals := lo + 69 }) cX4_readSum 4 none (dC, dI) (tysA cB cI cJ cZ cS) as 7 (wK cB cI cJ cZ cS a s) [(0, .ref (a 28)), (1, .int x1), (2, .int x2)] [] (fun u => u = (wK cB cI cJ cZ cS a s'))) (s : KS) (x1 : Int32) (x2 : Int32) (hB : kX4_readSum_7 R k7 s x1 x2 = some s') : BlkV l yX4_readSum wsX4_readSum ({ frames := fr + 3, cells := 0, slots := 0, locals := lo + 69 }) cX4_readSum 4 none (dC, dI) (tysA cB cI cJ cZ cS) as 7 (wK cB cI cJ cZ cS a s) [(0, .ref (a 28)), (1, .int x1), (2, .int x2)] [] (fun u => u = (wK cB cI cJ cZ cS a s')) := by
  intro p e s0 m below meth c A E H locs ls hP hD hS hl
  obtain ⟨C, hr, hlocks, hA, hK, hN⟩ := id E
  obtain ⟨hx, hb, hml, hown, hts⟩ := id C
  unfold kX4_readSum_7 at hB
  refine lv_iload_n hx hb dX4_readSum_7 rfl (lv_at hl 2 rfl) ?_
  refine lv_sipush (v := 400) hx hb dX4_readSum_8 (by decide) ?_
  refine lv_icmp_ge (tgt := 72) hx hb dX4_readSum_11 (by decide) (fun c1 => ?_) (fun c1 => ?_)
  · have hB := if_p hB c1
    exact q_vret C hr hlocks hK hP hD hS (Nat.le_of_ble_eq_true rfl) (Nat.le_of_ble_eq_true rfl) dX4_readSum_72 (by cases hB; rfl)
  · have hB := if_n hB c1
    refine lv_aload_n hx hb dX4_readSum_14 rfl (lv_at hl 0 rfl) ?_
    refine lv_bipush (v := 43) hx hb dX4_readSum_15 (by decide) ?_
    obtain ⟨q_, s2, hc, hB⟩ := bindI_inv hB
    refine q_goiF (va_runV (As := [.int 43]) (rest := []) C (ckX4_isAt hc _) (cwV 1 hts gX4_readSum_X4_isAt rfl rfl rfl (by decide +kernel) ⟨by dsimp only; omega, by dsimp only; omega⟩) (q_preV hK hP (ci := 4) (q0 := 28) rfl rfl rfl (q_preF hN hK hP hD)) rfl rfl hl.1 rfl (lv_room (Nat.le_of_ble_eq_true rfl)) dX4_readSum_17 ⟨Nat.le_of_ble_eq_true rfl, Nat.le_of_ble_eq_true rfl⟩) hD hS hA (fun r3 w1 H locs hw hP hD hS => ?_)
    obtain ⟨hq_, hw⟩ := hw; subst hw; subst hq_
    refine lv_if_ne (tgt := 32) hx hb dX4_readSum_20 (by decide) (fun c4 => ?_) (fun c4 => ?_)
    · have hB := if_n hB c4
      exact bkX4_readSum_32 hR hfr hlo (hk7) _ _ _ hB p e s0 m below meth c A E H locs ls hP hD hS (lv_sub hl [0, 1, 2] rfl)
    · have hB := if_p hB c4
      refine lv_aload_n hx hb dX4_readSum_23 rfl (lv_at hl 0 rfl) ?_
      refine lv_bipush (v := 45) hx hb dX4_readSum_24 (by decide) ?_
      obtain ⟨q_, s5, hc, hB⟩ := bindI_inv hB
      refine q_goiF (va_runV (As := [.int 45]) (rest := []) C (ckX4_isAt hc _) (cwV 1 hts gX4_readSum_X4_isAt rfl rfl rfl (by decide +kernel) ⟨by dsimp only; omega, by dsimp only; omega⟩) (q_preV hK hP (ci := 4) (q0 := 28) rfl rfl rfl (q_preF hN hK hP hD)) rfl rfl hl.1 rfl (lv_room (Nat.le_of_ble_eq_true rfl)) dX4_readSum_26 ⟨Nat.le_of_ble_eq_true rfl, Nat.le_of_ble_eq_true rfl⟩) hD hS hA (fun r6 w1 H locs hw hP hD hS => ?_)
      obtain ⟨hq_, hw⟩ := hw; subst hw; subst hq_
      refine lv_if_eq (tgt := 72) hx hb dX4_readSum_29 (by decide) (fun c7 => ?_) (fun c7 => ?_)
      · have hB := if_p hB c7
        exact q_vret C hr hlocks hK hP hD hS (Nat.le_of_ble_eq_true rfl) (Nat.le_of_ble_eq_true rfl) dX4_readSum_72 (by cases hB; rfl)
      · have hB := if_n hB c7
        exact bkX4_readSum_32 hR hfr hlo (hk7) _ _ _ hB p e s0 m below meth c A E H locs ls hP hD hS (lv_sub hl [0, 1, 2] rfl)
theorem bkX4_readSum_7L {l : Launch} {dC : Nat → ClassId} {dI : Nat → Nat → Nat} {cB cI cJ cZ cS : ClassId} {a : Nat → Nat} {R : KS → Int32 → Option KS} {fr lo : Nat} (hR : ∀ {s : KS} {x1 : Int32} {s' : KS}, R s x1 = some s' → CV l yX4_readSum wsX4_readSum ({ frames := fr, cells := 0, slots := 0, locals := lo }) (dC, dI) (tysA cB cI cJ cZ cS) (wK cB cI cJ cZ cS a s) [.ref (a 28), .int x1] (fun u => u = wK cB cI cJ cZ cS a s')) (hfr : 2 ≤ fr) (hlo : 42 ≤ lo) {as : List Value} {s' : KS} : ∀ (n : Nat) (s : KS) (x1 : Int32) (x2 : Int32), kX4_readSum_7L R n s x1 x2 = some s' → BlkV l yX4_readSum wsX4_readSum ({ frames := fr + 3, cells := 0, slots := 0, locals := lo + 69 }) cX4_readSum 4 none (dC, dI) (tysA cB cI cJ cZ cS) as 7 (wK cB cI cJ cZ cS a s) [(0, .ref (a 28)), (1, .int x1), (2, .int x2)] [] (fun u => u = (wK cB cI cJ cZ cS a s')) := by
  intro n
  induction n with
  | zero => intro s x1 x2 hB; exact none_ne hB
  | succ n ih => intro s x1 x2 hB; exact bkX4_readSum_7 hR hfr hlo ih _ _ _ hB
set_option maxHeartbeats 4000000 in
set_option maxRecDepth 100000 in
theorem bkX4_readSum {l : Launch} {dC : Nat → ClassId} {dI : Nat → Nat → Nat} {cB cI cJ cZ cS : ClassId} {a : Nat → Nat} {R : KS → Int32 → Option KS} {fr lo : Nat} (hR : ∀ {s : KS} {x1 : Int32} {s' : KS}, R s x1 = some s' → CV l yX4_readSum wsX4_readSum ({ frames := fr, cells := 0, slots := 0, locals := lo }) (dC, dI) (tysA cB cI cJ cZ cS) (wK cB cI cJ cZ cS a s) [.ref (a 28), .int x1] (fun u => u = wK cB cI cJ cZ cS a s')) (hfr : 2 ≤ fr) (hlo : 42 ≤ lo) {as : List Value} {s' : KS} (s : KS) (x1 : Int32) (hB : kX4_readSum R s x1 = some s') : BlkV l yX4_readSum wsX4_readSum ({ frames := fr + 3, cells := 0, slots := 0, locals := lo + 69 }) cX4_readSum 4 none (dC, dI) (tysA cB cI cJ cZ cS) as 0 (wK cB cI cJ cZ cS a s) [(0, .ref (a 28)), (1, .int x1)] [] (fun u => u = (wK cB cI cJ cZ cS a s')) := by
  intro p e s0 m below meth c A E H locs ls hP hD hS hl
  obtain ⟨C, hr, hlocks, hA, hK, hN⟩ := id E
  obtain ⟨hx, hb, hml, hown, hts⟩ := id C
  unfold kX4_readSum at hB
  refine lv_aload_n hx hb dX4_readSum_0 rfl (lv_at hl 0 rfl) ?_
  refine lv_iload_n hx hb dX4_readSum_1 rfl (lv_at hl 1 rfl) ?_
  obtain ⟨s1, hc, hB⟩ := bindP_inv hB
  refine q_govF (va_runV (As := [.int x1]) (rest := []) C (ckX4_readProduct hR (by omega) (by omega) hc _) (cwV 1 hts gX4_readSum_X4_readProduct rfl rfl rfl (by decide +kernel) ⟨by dsimp only; omega, by dsimp only; omega⟩) (q_preV hK hP (ci := 4) (q0 := 28) rfl rfl rfl (q_preF hN hK hP hD)) rfl rfl hl.1 rfl (lv_room (Nat.le_of_ble_eq_true rfl)) dX4_readSum_2 ⟨Nat.le_of_ble_eq_true rfl, Nat.le_of_ble_eq_true rfl⟩) hD hS hA (fun w1 H locs hw hP hD hS => ?_)
  subst hw
  refine lv_iconst (v := 0) hx hb dX4_readSum_5 (by decide) ?_
  refine lv_istore_n (lv' := [(2, .int 0), (0, .ref (a 28)), (1, .int x1)]) hx hb dX4_readSum_6 rfl hl (by decide) rfl (fun ls hl => ?_)
  exact bkX4_readSum_7L hR hfr hlo fu _ _ _ hB p e s0 m below meth c A E H locs ls hP hD hS (lv_sub hl [1, 2, 0] rfl)
theorem ckX4_readSum {l : Launch} {dC : Nat → ClassId} {dI : Nat → Nat → Nat} {cB cI cJ cZ cS : ClassId} {a : Nat → Nat} {R : KS → Int32 → Option KS} {fr lo : Nat} (hR : ∀ {s : KS} {x1 : Int32} {s' : KS}, R s x1 = some s' → CV l yX4_readSum wsX4_readSum ({ frames := fr, cells := 0, slots := 0, locals := lo }) (dC, dI) (tysA cB cI cJ cZ cS) (wK cB cI cJ cZ cS a s) [.ref (a 28), .int x1] (fun u => u = wK cB cI cJ cZ cS a s')) (hfr : 2 ≤ fr) (hlo : 42 ≤ lo) {s' : KS} {s : KS} {x1 : Int32} (hB : kX4_readSum R s x1 = some s') : CV l yX4_readSum wsX4_readSum ({ frames := fr + 3, cells := 0, slots := 0, locals := lo + 69 }) (dC, dI) (tysA cB cI cJ cZ cS) (wK cB cI cJ cZ cS a s) [.ref (a 28), .int x1] (fun u => u = (wK cB cI cJ cZ cS a s')) :=
  CV_of (cc := cX4_readSum) (maxL := 4) (ret := none) (by decide) rfl (Nat.le_of_ble_eq_true rfl) (bkX4_readSum hR hfr hlo _ _ hB)
theorem ckX4_readSumR {l : Launch} {dC : Nat → ClassId} {dI : Nat → Nat → Nat} {cB cI cJ cZ cS : ClassId} {a : Nat → Nat} : ∀ (n : Nat) {s : KS} {x1 : Int32} {s' : KS}, kX4_readSumR n s x1 = some s' → CV l yX4_readSum wsX4_readSum ({ frames := 2 + 3 * n, cells := 0, slots := 0, locals := 42 + 69 * n }) (dC, dI) (tysA cB cI cJ cZ cS) (wK cB cI cJ cZ cS a s) [.ref (a 28), .int x1] (fun u => u = wK cB cI cJ cZ cS a s') := by
  intro n
  induction n with
  | zero => intro _ _ _ hB; exact none_ne hB
  | succ n ih =>
    intro _ _ _ hB
    have h := ckX4_readSum (R := kX4_readSumR n) ih (by omega) (by omega) hB
    exact h
theorem ckX4_readSum_8 {l : Launch} {dC : Nat → ClassId} {dI : Nat → Nat → Nat} {cB cI cJ cZ cS : ClassId} {a : Nat → Nat} {s : KS} {x1 : Int32} {s' : KS} (hB : kX4_readSumR 8 s x1 = some s') : CV l yX4_readSum wsX4_readSum ({ frames := 26, cells := 0, slots := 0, locals := 594 }) (dC, dI) (tysA cB cI cJ cZ cS) (wK cB cI cJ cZ cS a s) [.ref (a 28), .int x1] (fun u => u = wK cB cI cJ cZ cS a s') := ckX4_readSumR 8 hB
theorem LX10_go_19 : Cond.fieldLink RX10 19 "GuessFerry" "sound" "LGuessFerry$Sound;" ∈ wsX10_go := (List.mem_cons_of_mem _ (List.mem_append_left _ (List.mem_append_left _ (List.mem_append_left _ (List.mem_append_left _ (List.mem_append_left _ (List.mem_append_left _ (List.mem_append_left _ (List.mem_of_getElem? (i := 0) rfl)))))))))
theorem LX10_go_35 : Cond.fieldLink RX10 35 "GuessFerry" "now" "LGuessFerry$Standing;" ∈ wsX10_go := (List.mem_cons_of_mem _ (List.mem_append_left _ (List.mem_append_left _ (List.mem_append_left _ (List.mem_append_left _ (List.mem_append_left _ (List.mem_append_left _ (List.mem_append_left _ (List.mem_of_getElem? (i := 2) rfl)))))))))
theorem LX10_go_45 : Cond.fieldLink RX10 45 "GuessFerry" "past" "LGuessFerry$Past;" ∈ wsX10_go := (List.mem_cons_of_mem _ (List.mem_append_left _ (List.mem_append_left _ (List.mem_append_left _ (List.mem_append_left _ (List.mem_append_left _ (List.mem_append_left _ (List.mem_append_left _ (List.mem_of_getElem? (i := 1) rfl)))))))))
theorem LX10_go_54 : Cond.fieldLink RX10 54 "GuessFerry" "crossing" "LGuessFerry$Crossing;" ∈ wsX10_go := (List.mem_cons_of_mem _ (List.mem_append_left _ (List.mem_append_left _ (List.mem_append_left _ (List.mem_append_left _ (List.mem_append_left _ (List.mem_append_left _ (List.mem_append_left _ (List.mem_of_getElem? (i := 3) rfl)))))))))
theorem LX10_go_E_X0_sendBy : Cond.selects RX0 yX0_sendBy yX0_sendBy ∈ wsX10_go := (List.mem_cons_of_mem _ (List.mem_append_left _ (List.mem_append_left _ (List.mem_append_left _ (List.mem_append_left _ (List.mem_append_left _ (List.mem_append_left _ (List.mem_append_left _ (List.mem_of_getElem? (i := 16) rfl)))))))))
theorem LX10_go_E_X3_remember : Cond.selects RX3 yX3_remember yX3_remember ∈ wsX10_go := (List.mem_cons_of_mem _ (List.mem_append_left _ (List.mem_append_left _ (List.mem_append_left _ (List.mem_append_left _ (List.mem_append_left _ (List.mem_append_left _ (List.mem_append_left _ (List.mem_of_getElem? (i := 13) rfl)))))))))
theorem LX10_go_E_X5_hasGuess : Cond.selects RX5 yX5_hasGuess yX5_hasGuess ∈ wsX10_go := (List.mem_cons_of_mem _ (List.mem_append_left _ (List.mem_append_left _ (List.mem_append_left _ (List.mem_append_left _ (List.mem_append_left _ (List.mem_append_left _ (List.mem_append_left _ (List.mem_of_getElem? (i := 10) rfl)))))))))
theorem LX10_go_I_X0 : Cond.initialized RX0 ∈ wsX10_go := (List.mem_cons_of_mem _ (List.mem_append_left _ (List.mem_append_left _ (List.mem_append_left _ (List.mem_append_left _ (List.mem_append_left _ (List.mem_append_left _ (List.mem_append_left _ (List.mem_of_getElem? (i := 15) rfl)))))))))
theorem LX10_go_I_X3 : Cond.initialized RX3 ∈ wsX10_go := (List.mem_cons_of_mem _ (List.mem_append_left _ (List.mem_append_left _ (List.mem_append_left _ (List.mem_append_left _ (List.mem_append_left _ (List.mem_append_left _ (List.mem_append_left _ (List.mem_of_getElem? (i := 12) rfl)))))))))
theorem LX10_go_I_X5 : Cond.initialized RX5 ∈ wsX10_go := (List.mem_cons_of_mem _ (List.mem_append_left _ (List.mem_append_left _ (List.mem_append_left _ (List.mem_append_left _ (List.mem_append_left _ (List.mem_append_left _ (List.mem_append_left _ (List.mem_of_getElem? (i := 8) rfl)))))))))
theorem LX10_go_N_X0_sendBy : Cond.instanceMethod yX0_sendBy ∈ wsX10_go := (List.mem_cons_of_mem _ (List.mem_append_left _ (List.mem_append_left _ (List.mem_append_left _ (List.mem_append_left _ (List.mem_append_left _ (List.mem_append_left _ (List.mem_append_left _ (List.mem_of_getElem? (i := 14) rfl)))))))))
theorem LX10_go_N_X3_remember : Cond.instanceMethod yX3_remember ∈ wsX10_go := (List.mem_cons_of_mem _ (List.mem_append_left _ (List.mem_append_left _ (List.mem_append_left _ (List.mem_append_left _ (List.mem_append_left _ (List.mem_append_left _ (List.mem_append_left _ (List.mem_of_getElem? (i := 11) rfl)))))))))
theorem LX10_go_N_X5_hasGuess : Cond.instanceMethod yX5_hasGuess ∈ wsX10_go := (List.mem_cons_of_mem _ (List.mem_append_left _ (List.mem_append_left _ (List.mem_append_left _ (List.mem_append_left _ (List.mem_append_left _ (List.mem_append_left _ (List.mem_append_left _ (List.mem_of_getElem? (i := 9) rfl)))))))))
theorem inX10_go_X10 : ∀ w ∈ u_ws RX10 TX10 9, w ∈ wsX10_go := fun w h => (List.mem_cons_of_mem _ (List.mem_append_left _ (List.mem_append_left _ (List.mem_append_left _ (List.mem_append_left _ (List.mem_append_left _ (List.mem_append_right _ h)))))))
theorem inX10_go_X5 : ∀ w ∈ u_ws RX5 TX5 10, w ∈ wsX10_go := fun w h => (List.mem_cons_of_mem _ (List.mem_append_left _ (List.mem_append_left _ (List.mem_append_left _ (List.mem_append_left _ (List.mem_append_right _ h))))))
set_option maxHeartbeats 4000000 in
set_option maxRecDepth 100000 in
theorem bkX10_go {l : Launch} {dC : Nat → ClassId} {dI : Nat → Nat → Nat} {cB cI cJ cZ cS : ClassId} {a b b2 c0 : Nat → Nat} {bb : Nat → Nat → Nat} {as : List Value} {r : Int32} {s' : YS} (s : YS) (x1 : Int32) (x2 : Int32) (hB : kX10_go s x1 x2 = some (r, s')) : BlkI l yX10_go wsX10_go ({ frames := 6, cells := 0, slots := 0, locals := 151 }) cX10_go 3 (some .int) (dC, dI) (tysA cB cI cJ cZ cS) as 0 (wY cB cI cJ cZ cS a b b2 c0 bb s) [(0, .ref (c0 0)), (1, .int x1), (2, .int x2)] [] (fun x u => x = r ∧ u = (wY cB cI cJ cZ cS a b b2 c0 bb s')) := by
  intro p e s0 m below meth c A E H locs ls hP hD hS hl
  obtain ⟨C, hr, hlocks, hA, hK, hN⟩ := id E
  obtain ⟨hx, hb, hml, hown, hts⟩ := id C
  unfold kX10_go at hB
  refine lv_aload_n hx hb dX10_go_0 rfl (lv_at hl 0 rfl) ?_
  refine lv_iload_n hx hb dX10_go_1 rfl (lv_at hl 1 rfl) ?_
  obtain ⟨q_, s1, hc, hB⟩ := bindI_inv hB
  refine q_goiT (wr := []) (va_runV (As := [.int x1]) (rest := []) C (ckX10_isHere hc _) (cwV 1 hts gX10_go_X10_isHere rfl rfl rfl (by decide +kernel) ⟨Nat.le_of_ble_eq_true rfl, Nat.le_of_ble_eq_true rfl⟩) (q_preV hK hP (ci := 10) (q0 := 0) rfl rfl rfl (q_pre hN hK hP hD [0, 1, 2, 3, 4, 5, 6, 7, 8, 9, 10, 11, 12, 13, 14, 15, 16, 17, 18, 19, 20, 21, 22, 23, 24, 25, 26, 27, 28, 29, 30, 31, 32, 33, 34, 35, 36, 37, 38, 39, 40, 41, 42, 43, 44, 45, 46, 47, 48, 49, 50, 51, 52, 53, 54, 55, 56, 57, 58, 59, 60, 61, 62, 63] rfl (by decide))) rfl rfl hl.1 rfl (lv_room (Nat.le_of_ble_eq_true rfl)) dX10_go_2 ⟨Nat.le_of_ble_eq_true rfl, Nat.le_of_ble_eq_true rfl⟩) hP hD hS hA [0, 1, 2, 3, 4, 5, 6, 7, 8, 9, 10, 11, 12, 13, 14, 15, 16, 17, 18, 19, 20, 21, 22, 23, 24, 25, 26, 27, 28, 29, 30, 31, 32, 33, 34, 35, 36, 37, 38, 39, 40, 41, 42, 43, 44, 45, 46, 47, 48, 49, 50, 51, 52, 53, 54, 55, 56, 57, 58, 59, 60, 61, 62, 63] [] rfl rfl (by decide) (by decide) (fun r2 w1 H locs hw hP hD hS => ?_)
  obtain ⟨hq_, hw⟩ := hw; subst hw; subst hq_
  obtain ⟨s3, hs4, hB⟩ := letS_inv hB
  have hP : va_P (dC, dI) vwCl (wY cB cI cJ cZ cS a b b2 c0 bb s3) H := by subst hs4; exact hP
  have hD : va_D A (wY cB cI cJ cZ cS a b b2 c0 bb s3) := by subst hs4; exact hD
  refine lv_if_eq (tgt := 29) hx hb dX10_go_5 (by decide) (fun c5 => ?_) (fun c5 => ?_)
  · have hB := if_p hB c5
    refine lv_iconst (v := (-1)) hx hb dX10_go_29 (by decide) ?_
    exact q_iret C hr hlocks hK hP hD hS (Nat.le_of_ble_eq_true rfl) (Nat.le_of_ble_eq_true rfl) dX10_go_30 (by cases hB; exact ⟨rfl, rfl⟩)
  · have hB := if_n hB c5
    refine lv_aload_n hx hb dX10_go_8 rfl (lv_at hl 0 rfl) ?_
    refine q_get (v := .ref (a 2)) C inX10_go_X10 hK hP 0 rfl rfl 1 (by decide) rfl LX10_go_19 rfl dX10_go_9 ?_
    refine q_getN (v := .int (s3.x.k.v 1)) C hN inX10_go_X5 hK hP 19 rfl rfl 6 (by decide) rfl nwF_X10_167 rfl dX10_go_12 ?_
    refine lv_if_eq (tgt := 29) hx hb dX10_go_15 (by decide) (fun c6 => ?_) (fun c6 => ?_)
    · have hB := if_p hB c6
      refine lv_iconst (v := (-1)) hx hb dX10_go_29 (by decide) ?_
      exact q_iret C hr hlocks hK hP hD hS (Nat.le_of_ble_eq_true rfl) (Nat.le_of_ble_eq_true rfl) dX10_go_30 (by cases hB; exact ⟨rfl, rfl⟩)
    · have hB := if_n hB c6
      refine lv_aload_n hx hb dX10_go_18 rfl (lv_at hl 0 rfl) ?_
      refine q_get (v := .ref (a 2)) C inX10_go_X10 hK hP 0 rfl rfl 1 (by decide) rfl LX10_go_19 rfl dX10_go_19 ?_
      refine lv_iload_n hx hb dX10_go_22 rfl (lv_at hl 2 rfl) ?_
      obtain ⟨q_, s7, hc, hB⟩ := bindI_inv hB
      refine q_goiT (wr := ((wG cZ cS a b b2 c0 (rgP bb) (slP bb) s3.x.g) ++ (wD cI b2 s3.x.t) ++ (wD cI b s3.x.n))) (va_runVN (As := [.int x2]) (rest := []) C (ckX5_hasGuess hc _) ⟨va_cnB 1 hts gX10_go_X5_hasGuess_n170 rfl rfl rfl (hN _ nwM_X10_170 rfl) (hts _ LX10_go_I_X5) (by decide +kernel) ⟨Nat.le_of_ble_eq_true rfl, Nat.le_of_ble_eq_true rfl⟩, hts _ LX10_go_N_X5_hasGuess, hts _ LX10_go_E_X5_hasGuess⟩ (q_preV hK hP (ci := 5) (q0 := 19) rfl rfl rfl (q_pre hN hK hP hD [17, 18, 19, 20, 21, 22, 23, 24, 25, 26, 27, 28, 29, 30, 31, 32, 33, 34, 35, 36, 37, 38, 39, 40, 41, 42, 43, 44, 45, 46, 47, 48, 49, 50, 51, 52, 53, 54, 55, 56, 57, 58, 59, 60, 61, 62, 63] rfl (by decide))) rfl rfl hl.1 rfl (lv_room (Nat.le_of_ble_eq_true rfl)) dX10_go_23 ⟨Nat.le_of_ble_eq_true rfl, Nat.le_of_ble_eq_true rfl⟩) hP hD hS hA [17, 18, 19, 20, 21, 22, 23, 24, 25, 26, 27, 28, 29, 30, 31, 32, 33, 34, 35, 36, 37, 38, 39, 40, 41, 42, 43, 44, 45, 46, 47, 48, 49, 50, 51, 52, 53, 54, 55, 56, 57, 58, 59, 60, 61, 62, 63] [0, 1, 2, 3, 4, 5, 6, 7, 8, 9, 10, 11, 12, 13, 14, 15, 16] rfl rfl (by decide) (by decide) (fun r8 w1 H locs hw hP hD hS => ?_)
      obtain ⟨hq_, hw⟩ := hw; subst hw; subst hq_
      obtain ⟨s9, hs10, hB⟩ := letS_inv hB
      have hP : va_P (dC, dI) vwCl (wY cB cI cJ cZ cS a b b2 c0 bb s9) H := by subst hs10; exact hP
      have hD : va_D A (wY cB cI cJ cZ cS a b b2 c0 bb s9) := by subst hs10; exact hD
      refine lv_if_ne (tgt := 31) hx hb dX10_go_26 (by decide) (fun c11 => ?_) (fun c11 => ?_)
      · have hB := if_n hB c11
        refine lv_aload_n hx hb dX10_go_31 rfl (lv_at hl 0 rfl) ?_
        refine q_get (v := .ref (c0 1)) C inX10_go_X10 hK hP 0 rfl rfl 5 (by decide) rfl LX10_go_45 rfl dX10_go_32 ?_
        refine lv_aload_n hx hb dX10_go_35 rfl (lv_at hl 0 rfl) ?_
        refine q_get (v := .ref (b 0)) C inX10_go_X10 hK hP 0 rfl rfl 3 (by decide) rfl LX10_go_35 rfl dX10_go_36 ?_
        obtain ⟨s12, hc, hB⟩ := bindP_inv hB
        refine q_govP (wr := ((wD cI b2 s9.x.t) ++ (wK cB cI cJ cZ cS a s9.x.k))) (va_runVN (As := [.ref (b 0)]) (rest := []) C (ckX3_remember hc _) ⟨va_cnB 1 hts gX10_go_X3_remember_n173 rfl rfl rfl (hN _ nwM_X10_173 rfl) (hts _ LX10_go_I_X3) (by decide +kernel) ⟨Nat.le_of_ble_eq_true rfl, Nat.le_of_ble_eq_true rfl⟩, hts _ LX10_go_N_X3_remember, hts _ LX10_go_E_X3_remember⟩ (q_preV hK hP (ci := 3) (q0 := 1) rfl rfl rfl (q_preP hN hK hP hD [0, 1, 2, 3, 4, 11, 12, 13, 14, 15, 16] rfl (by decide))) rfl rfl hl.1 rfl (lv_room (Nat.le_of_ble_eq_true rfl)) dX10_go_39 ⟨Nat.le_of_ble_eq_true rfl, Nat.le_of_ble_eq_true rfl⟩) hP hD hS hA [0, 1, 2, 3, 4, 11, 12, 13, 14, 15, 16] [5, 6, 7, 8, 9, 10, 17, 18, 19, 20, 21, 22, 23, 24, 25, 26, 27, 28, 29, 30, 31, 32, 33, 34, 35, 36, 37, 38, 39, 40, 41, 42, 43, 44, 45, 46, 47, 48, 49, 50, 51, 52, 53, 54, 55, 56, 57, 58, 59, 60, 61, 62, 63] rfl rfl (by decide) (by decide) (fun H locs hP hD hS => ?_)
        obtain ⟨s13, hs14, hB⟩ := letS_inv hB
        have hP : va_P (dC, dI) vwCl (wY cB cI cJ cZ cS a b b2 c0 bb s13) H := by subst hs14; exact hP.part [53, 54, 55, 56, 57, 0, 1, 2, 3, 4, 5, 58, 59, 60, 61, 62, 63, 6, 7, 8, 9, 10, 11, 12, 13, 14, 15, 16, 17, 18, 19, 20, 21, 22, 23, 24, 25, 26, 27, 28, 29, 30, 31, 32, 33, 34, 35, 36, 37, 38, 39, 40, 41, 42, 43, 44, 45, 46, 47, 48, 49, 50, 51, 52] rfl
        have hD : va_D A (wY cB cI cJ cZ cS a b b2 c0 bb s13) := by subst hs14; exact hD.part [53, 54, 55, 56, 57, 0, 1, 2, 3, 4, 5, 58, 59, 60, 61, 62, 63, 6, 7, 8, 9, 10, 11, 12, 13, 14, 15, 16, 17, 18, 19, 20, 21, 22, 23, 24, 25, 26, 27, 28, 29, 30, 31, 32, 33, 34, 35, 36, 37, 38, 39, 40, 41, 42, 43, 44, 45, 46, 47, 48, 49, 50, 51, 52] (by decide) rfl
        refine lv_aload_n hx hb dX10_go_42 rfl (lv_at hl 0 rfl) ?_
        refine q_get (v := .ref (a 35)) C inX10_go_X10 hK hP 0 rfl rfl 6 (by decide) rfl LX10_go_54 rfl dX10_go_43 ?_
        refine lv_aload_n hx hb dX10_go_46 rfl (lv_at hl 0 rfl) ?_
        refine q_get (v := .ref (b 0)) C inX10_go_X10 hK hP 0 rfl rfl 3 (by decide) rfl LX10_go_35 rfl dX10_go_47 ?_
        refine lv_iload_n hx hb dX10_go_50 rfl (lv_at hl 1 rfl) ?_
        refine lv_iload_n hx hb dX10_go_51 rfl (lv_at hl 2 rfl) ?_
        obtain ⟨q_, s15, hc, hB⟩ := bindI_inv hB
        refine q_goiT (wr := ((wG cZ cS a b b2 c0 (rgP bb) (slP bb) s13.x.g) ++ (wD cI b2 s13.x.t))) (va_runVN (As := [.ref (b 0), .int x1, .int x2]) (rest := []) C (ckX0_sendBy hc _) ⟨va_cnB 3 hts gX10_go_X0_sendBy_n177 rfl rfl rfl (hN _ nwM_X10_177 rfl) (hts _ LX10_go_I_X0) (by decide +kernel) ⟨Nat.le_of_ble_eq_true rfl, Nat.le_of_ble_eq_true rfl⟩, hts _ LX10_go_N_X0_sendBy, hts _ LX10_go_E_X0_sendBy⟩ (q_preV hK hP (ci := 0) (q0 := 52) rfl rfl rfl (q_pre hN hK hP hD [11, 12, 13, 14, 15, 16, 17, 18, 19, 20, 21, 22, 23, 24, 25, 26, 27, 28, 29, 30, 31, 32, 33, 34, 35, 36, 37, 38, 39, 40, 41, 42, 43, 44, 45, 46, 47, 48, 49, 50, 51, 52, 53, 54, 55, 56, 57, 58, 59, 60, 61, 62, 63] rfl (by decide))) rfl rfl hl.1 rfl (lv_room (Nat.le_of_ble_eq_true rfl)) dX10_go_52 ⟨Nat.le_of_ble_eq_true rfl, Nat.le_of_ble_eq_true rfl⟩) hP hD hS hA [11, 12, 13, 14, 15, 16, 17, 18, 19, 20, 21, 22, 23, 24, 25, 26, 27, 28, 29, 30, 31, 32, 33, 34, 35, 36, 37, 38, 39, 40, 41, 42, 43, 44, 45, 46, 47, 48, 49, 50, 51, 52, 53, 54, 55, 56, 57, 58, 59, 60, 61, 62, 63] [0, 1, 2, 3, 4, 5, 6, 7, 8, 9, 10] rfl rfl (by decide) (by decide) (fun r16 w1 H locs hw hP hD hS => ?_)
        obtain ⟨hq_, hw⟩ := hw; subst hw; subst hq_
        obtain ⟨s17, hs18, hB⟩ := letS_inv hB
        have hP : va_P (dC, dI) vwCl (wY cB cI cJ cZ cS a b b2 c0 bb s17) H := by subst hs18; exact hP
        have hD : va_D A (wY cB cI cJ cZ cS a b b2 c0 bb s17) := by subst hs18; exact hD
        exact q_iret C hr hlocks hK hP hD hS (Nat.le_of_ble_eq_true rfl) (Nat.le_of_ble_eq_true rfl) dX10_go_55 (by cases hB; exact ⟨rfl, rfl⟩)
      · have hB := if_p hB c11
        refine lv_iconst (v := (-1)) hx hb dX10_go_29 (by decide) ?_
        exact q_iret C hr hlocks hK hP hD hS (Nat.le_of_ble_eq_true rfl) (Nat.le_of_ble_eq_true rfl) dX10_go_30 (by cases hB; exact ⟨rfl, rfl⟩)
theorem ckX10_go {l : Launch} {dC : Nat → ClassId} {dI : Nat → Nat → Nat} {cB cI cJ cZ cS : ClassId} {a b b2 c0 : Nat → Nat} {bb : Nat → Nat → Nat} {r : Int32} {s' : YS} {s : YS} {x1 : Int32} {x2 : Int32} (hB : kX10_go s x1 x2 = some (r, s')) : CI l yX10_go wsX10_go ({ frames := 6, cells := 0, slots := 0, locals := 151 }) (dC, dI) (tysA cB cI cJ cZ cS) (wY cB cI cJ cZ cS a b b2 c0 bb s) [.ref (c0 0), .int x1, .int x2] (fun x u => x = r ∧ u = (wY cB cI cJ cZ cS a b b2 c0 bb s')) :=
  CI_of (cc := cX10_go) (maxL := 3) (ret := (some .int)) (by decide) rfl (Nat.le_of_ble_eq_true rfl) (bkX10_go _ _ _ hB)
theorem LX2_oddsOverWithin_24 : Cond.fieldLink RX2 24 "GuessFerry$Outlook" "sound" "LGuessFerry$Sound;" ∈ wsX2_oddsOverWithin := (List.mem_cons_of_mem _ (List.mem_append_left _ (List.mem_append_left _ (List.mem_append_left _ (List.mem_append_left _ (List.mem_append_left _ (List.mem_append_left _ (List.mem_of_getElem? (i := 0) rfl))))))))
theorem LX2_oddsOverWithin_I_X10 : Cond.initialized RX10 ∈ wsX2_oddsOverWithin := (List.mem_cons_of_mem _ (List.mem_append_left _ (List.mem_append_left _ (List.mem_append_left _ (List.mem_append_left _ (List.mem_append_left _ (List.mem_append_left _ (List.mem_of_getElem? (i := 5) rfl))))))))
theorem LX2_oddsOverWithin_S_X10_thingIn : Cond.static yX10_thingIn ∈ wsX2_oddsOverWithin := (List.mem_cons_of_mem _ (List.mem_append_left _ (List.mem_append_left _ (List.mem_append_left _ (List.mem_append_left _ (List.mem_append_left _ (List.mem_append_left _ (List.mem_of_getElem? (i := 9) rfl))))))))
theorem inX2_oddsOverWithin_X2 : ∀ w ∈ u_ws RX2 TX2 6, w ∈ wsX2_oddsOverWithin := fun w h => (List.mem_cons_of_mem _ (List.mem_append_left _ (List.mem_append_left _ (List.mem_append_left _ (List.mem_append_right _ h)))))
theorem inX2_oddsOverWithin_X5 : ∀ w ∈ u_ws RX5 TX5 10, w ∈ wsX2_oddsOverWithin := fun w h => (List.mem_cons_of_mem _ (List.mem_append_left _ (List.mem_append_left _ (List.mem_append_right _ h))))
theorem inX2_oddsOverWithin_X6 : ∀ w ∈ u_ws RX6 TX6 7, w ∈ wsX2_oddsOverWithin := fun w h => (List.mem_cons_of_mem _ (List.mem_append_left _ (List.mem_append_left _ (List.mem_append_left _ (List.mem_append_left _ (List.mem_append_right _ h))))))
set_option maxHeartbeats 4000000 in
set_option maxRecDepth 100000 in
theorem bkX2_oddsOverWithin_158 {l : Launch} {dC : Nat → ClassId} {dI : Nat → Nat → Nat} {cB cI cJ cZ cS : ClassId} {a b : Nat → Nat} {R : JS → Int32 → Int32 → Option (Int32 × JS)} {fr lo : Nat} (hR : ∀ {s : JS} {x2 x3 r : Int32} {s' : JS}, R s x2 x3 = some (r, s') → CI l yX2_oddsOverWithin wsX2_oddsOverWithin ({ frames := fr, cells := 0, slots := 0, locals := lo }) (dC, dI) (tysA cB cI cJ cZ cS) (wJ cB cI cJ cZ cS a b s) [.ref (a 36), .ref (b 0), .int x2, .int x3] (fun x u => x = r ∧ u = wJ cB cI cJ cZ cS a b s')) (hfr : 6 ≤ fr) (hlo : 152 ≤ lo) {as : List Value} {r : Int32} {s' : JS} {k55 : JS → Int32 → Int32 → Int32 → Int32 → Int32 → Int32 → Option (Int32 × JS)} (hk55 : ∀ (s : JS) (x2 : Int32) (x3 : Int32) (x4 : Int32) (x5 : Int32) (x6 : Int32) (x7 : Int32), k55 s x2 x3 x4 x5 x6 x7 = some (r, s') → BlkI l yX2_oddsOverWithin wsX2_oddsOverWithin ({ frames := fr + 1, cells := 0, slots := 0, locals := lo + 28 }) cX2_oddsOverWithin 9 (some .int) (dC, dI) (tysA cB cI cJ cZ cS) as 55 (wJ cB cI cJ cZ cS a b s) [(0, .ref (a 36)), (1, .ref (b 0)), (2, .int x2), (3, .int x3), (4, .int x4), (5, .int x5), (6, .int x6), (7, .int x7)] [] (fun x u => x = r ∧ u = (wJ cB cI cJ cZ cS a b s'))) (s : JS) (x2 : Int32) (x3 : Int32) (x4 : Int32) (x5 : Int32) (x6 : Int32) (x7 : Int32) (hB : kX2_oddsOverWithin_158 R k55 s x2 x3 x4 x5 x6 x7 = some (r, s')) : BlkI l yX2_oddsOverWithin wsX2_oddsOverWithin ({ frames := fr + 1, cells := 0, slots := 0, locals := lo + 28 }) cX2_oddsOverWithin 9 (some .int) (dC, dI) (tysA cB cI cJ cZ cS) as 158 (wJ cB cI cJ cZ cS a b s) [(0, .ref (a 36)), (1, .ref (b 0)), (2, .int x2), (3, .int x3), (4, .int x4), (5, .int x5), (6, .int x6), (7, .int x7)] [] (fun x u => x = r ∧ u = (wJ cB cI cJ cZ cS a b s')) := by
  intro p e s0 m below meth c A E H locs ls hP hD hS hl
  obtain ⟨C, hr, hlocks, hA, hK, hN⟩ := id E
  obtain ⟨hx, hb, hml, hown, hts⟩ := id C
  unfold kX2_oddsOverWithin_158 at hB
  refine lv_iinc (v := (x7 + 1)) (lv' := [(7, .int (x7 + 1)), (0, .ref (a 36)), (1, .ref (b 0)), (2, .int x2), (3, .int x3), (4, .int x4), (5, .int x5), (6, .int x6)]) hx hb dX2_oddsOverWithin_158 hl (k := 7) rfl (rfl) (by decide) rfl (fun ls hl => ?_)
  refine lv_goto (tgt := 55) hx hb dX2_oddsOverWithin_161 (by decide) ?_
  exact hk55 _ _ _ _ _ _ _ hB p e s0 m below meth c A E H locs ls hP hD hS (lv_sub hl [1, 2, 3, 4, 5, 6, 7, 0] rfl)
set_option maxHeartbeats 4000000 in
set_option maxRecDepth 100000 in
theorem bkX2_oddsOverWithin_129 {l : Launch} {dC : Nat → ClassId} {dI : Nat → Nat → Nat} {cB cI cJ cZ cS : ClassId} {a b : Nat → Nat} {R : JS → Int32 → Int32 → Option (Int32 × JS)} {fr lo : Nat} (hR : ∀ {s : JS} {x2 x3 r : Int32} {s' : JS}, R s x2 x3 = some (r, s') → CI l yX2_oddsOverWithin wsX2_oddsOverWithin ({ frames := fr, cells := 0, slots := 0, locals := lo }) (dC, dI) (tysA cB cI cJ cZ cS) (wJ cB cI cJ cZ cS a b s) [.ref (a 36), .ref (b 0), .int x2, .int x3] (fun x u => x = r ∧ u = wJ cB cI cJ cZ cS a b s')) (hfr : 6 ≤ fr) (hlo : 152 ≤ lo) {as : List Value} {r : Int32} {s' : JS} {k55 : JS → Int32 → Int32 → Int32 → Int32 → Int32 → Int32 → Option (Int32 × JS)} (hk55 : ∀ (s : JS) (x2 : Int32) (x3 : Int32) (x4 : Int32) (x5 : Int32) (x6 : Int32) (x7 : Int32), k55 s x2 x3 x4 x5 x6 x7 = some (r, s') → BlkI l yX2_oddsOverWithin wsX2_oddsOverWithin ({ frames := fr + 1, cells := 0, slots := 0, locals := lo + 28 }) cX2_oddsOverWithin 9 (some .int) (dC, dI) (tysA cB cI cJ cZ cS) as 55 (wJ cB cI cJ cZ cS a b s) [(0, .ref (a 36)), (1, .ref (b 0)), (2, .int x2), (3, .int x3), (4, .int x4), (5, .int x5), (6, .int x6), (7, .int x7)] [] (fun x u => x = r ∧ u = (wJ cB cI cJ cZ cS a b s'))) (s : JS) (x2 : Int32) (x3 : Int32) (x4 : Int32) (x5 : Int32) (x6 : Int32) (x7 : Int32) (x8 : Int32) (hB : kX2_oddsOverWithin_129 R k55 s x2 x3 x4 x5 x6 x7 x8 = some (r, s')) : BlkI l yX2_oddsOverWithin wsX2_oddsOverWithin ({ frames := fr + 1, cells := 0, slots := 0, locals := lo + 28 }) cX2_oddsOverWithin 9 (some .int) (dC, dI) (tysA cB cI cJ cZ cS) as 129 (wJ cB cI cJ cZ cS a b s) [(0, .ref (a 36)), (1, .ref (b 0)), (2, .int x2), (3, .int x3), (4, .int x4), (5, .int x5), (6, .int x6), (7, .int x7), (8, .int x8)] [] (fun x u => x = r ∧ u = (wJ cB cI cJ cZ cS a b s')) := by
  intro p e s0 m below meth c A E H locs ls hP hD hS hl
  obtain ⟨C, hr, hlocks, hA, hK, hN⟩ := id E
  obtain ⟨hx, hb, hml, hown, hts⟩ := id C
  unfold kX2_oddsOverWithin_129 at hB
  refine lv_aload_n hx hb dX2_oddsOverWithin_129 rfl (lv_at hl 1 rfl) ?_
  refine q_getN (v := .ref (b 1)) C hN inX2_oddsOverWithin_X6 hK hP 0 rfl rfl 0 (by decide) rfl nwF_X2_128 rfl dX2_oddsOverWithin_130 ?_
  refine lv_iload hx hb dX2_oddsOverWithin_133 (lv_at hl 7 rfl) ?_
  obtain ⟨g1, hB⟩ := guard_inv hB
  refine q_iald (x := ((s.d.f 0) (Int32.toNatClampNeg x7))) C hK hP 1 1 rfl rfl (vpb_in g1) dX2_oddsOverWithin_135 rfl ?_
  refine lv_iconst (v := (-1)) hx hb dX2_oddsOverWithin_136 (by decide) ?_
  refine lv_icmp_ne (tgt := 158) hx hb dX2_oddsOverWithin_137 (by decide) (fun c2 => ?_) (fun c2 => ?_)
  · have hB := if_n hB c2
    exact bkX2_oddsOverWithin_158 hR hfr hlo (hk55) _ _ _ _ _ _ _ hB p e s0 m below meth c A E H locs ls hP hD hS (lv_sub hl [0, 1, 2, 3, 4, 5, 6, 7] rfl)
  · have hB := if_p hB c2
    refine lv_aload_n hx hb dX2_oddsOverWithin_140 rfl (lv_at hl 1 rfl) ?_
    refine q_getN (v := .ref (b 1)) C hN inX2_oddsOverWithin_X6 hK hP 0 rfl rfl 0 (by decide) rfl nwF_X2_128 rfl dX2_oddsOverWithin_141 ?_
    refine lv_iload hx hb dX2_oddsOverWithin_144 (lv_at hl 7 rfl) ?_
    refine lv_iload hx hb dX2_oddsOverWithin_146 (lv_at hl 8 rfl) ?_
    obtain ⟨g3, hB⟩ := guard_inv hB
    obtain ⟨s4, hs5, hB⟩ := letS_inv hB
    refine q_iast (f2 := (upd (s.d.f 0) (Int32.toNatClampNeg x7) x8)) (w2 := (wJ cB cI cJ cZ cS a b s4)) C hK hP hD hS 1 1 rfl rfl (vpb_in g3) dX2_oddsOverWithin_148 rfl (by subst hs5; rfl) (fun H locs hP hD hS => ?_)
    refine lv_iload hx hb dX2_oddsOverWithin_149 (lv_at hl 6 rfl) ?_
    refine lv_iconst (v := 1) hx hb dX2_oddsOverWithin_151 (by decide) ?_
    refine lv_iload hx hb dX2_oddsOverWithin_152 (lv_at hl 7 rfl) ?_
    refine lv_ishl hx hb dX2_oddsOverWithin_154 ?_
    refine lv_ior hx hb dX2_oddsOverWithin_155 ?_
    refine lv_istore (lv' := [(6, .int (x6 ||| (1 <<< (x7 &&& 31)))), (0, .ref (a 36)), (1, .ref (b 0)), (2, .int x2), (3, .int x3), (4, .int x4), (5, .int x5), (7, .int x7), (8, .int x8)]) hx hb dX2_oddsOverWithin_156 hl (by decide) rfl (fun ls hl => ?_)
    exact bkX2_oddsOverWithin_158 hR hfr hlo (hk55) _ _ _ _ _ _ _ hB p e s0 m below meth c A E H locs ls hP hD hS (lv_sub hl [1, 2, 3, 4, 5, 6, 0, 7] rfl)
set_option maxHeartbeats 4000000 in
set_option maxRecDepth 100000 in
theorem bkX2_oddsOverWithin_55 {l : Launch} {dC : Nat → ClassId} {dI : Nat → Nat → Nat} {cB cI cJ cZ cS : ClassId} {a b : Nat → Nat} {R : JS → Int32 → Int32 → Option (Int32 × JS)} {fr lo : Nat} (hR : ∀ {s : JS} {x2 x3 r : Int32} {s' : JS}, R s x2 x3 = some (r, s') → CI l yX2_oddsOverWithin wsX2_oddsOverWithin ({ frames := fr, cells := 0, slots := 0, locals := lo }) (dC, dI) (tysA cB cI cJ cZ cS) (wJ cB cI cJ cZ cS a b s) [.ref (a 36), .ref (b 0), .int x2, .int x3] (fun x u => x = r ∧ u = wJ cB cI cJ cZ cS a b s')) (hfr : 6 ≤ fr) (hlo : 152 ≤ lo) {as : List Value} {r : Int32} {s' : JS} {k55 : JS → Int32 → Int32 → Int32 → Int32 → Int32 → Int32 → Option (Int32 × JS)} (hk55 : ∀ (s : JS) (x2 : Int32) (x3 : Int32) (x4 : Int32) (x5 : Int32) (x6 : Int32) (x7 : Int32), k55 s x2 x3 x4 x5 x6 x7 = some (r, s') → BlkI l yX2_oddsOverWithin wsX2_oddsOverWithin ({ frames := fr + 1, cells := 0, slots := 0, locals := lo + 28 }) cX2_oddsOverWithin 9 (some .int) (dC, dI) (tysA cB cI cJ cZ cS) as 55 (wJ cB cI cJ cZ cS a b s) [(0, .ref (a 36)), (1, .ref (b 0)), (2, .int x2), (3, .int x3), (4, .int x4), (5, .int x5), (6, .int x6), (7, .int x7)] [] (fun x u => x = r ∧ u = (wJ cB cI cJ cZ cS a b s'))) (s : JS) (x2 : Int32) (x3 : Int32) (x4 : Int32) (x5 : Int32) (x6 : Int32) (x7 : Int32) (hB : kX2_oddsOverWithin_55 R k55 s x2 x3 x4 x5 x6 x7 = some (r, s')) : BlkI l yX2_oddsOverWithin wsX2_oddsOverWithin ({ frames := fr + 1, cells := 0, slots := 0, locals := lo + 28 }) cX2_oddsOverWithin 9 (some .int) (dC, dI) (tysA cB cI cJ cZ cS) as 55 (wJ cB cI cJ cZ cS a b s) [(0, .ref (a 36)), (1, .ref (b 0)), (2, .int x2), (3, .int x3), (4, .int x4), (5, .int x5), (6, .int x6), (7, .int x7)] [] (fun x u => x = r ∧ u = (wJ cB cI cJ cZ cS a b s')) := by
  intro p e s0 m below meth c A E H locs ls hP hD hS hl
  obtain ⟨C, hr, hlocks, hA, hK, hN⟩ := id E
  obtain ⟨hx, hb, hml, hown, hts⟩ := id C
  unfold kX2_oddsOverWithin_55 at hB
  refine lv_iload hx hb dX2_oddsOverWithin_55 (lv_at hl 7 rfl) ?_
  refine lv_aload_n hx hb dX2_oddsOverWithin_57 rfl (lv_at hl 0 rfl) ?_
  refine q_get (v := .ref (a 2)) C inX2_oddsOverWithin_X2 hK hP 42 rfl rfl 0 (by decide) rfl LX2_oddsOverWithin_24 rfl dX2_oddsOverWithin_58 ?_
  refine q_getN (v := .int (s.k.v 1)) C hN inX2_oddsOverWithin_X5 hK hP 8 rfl rfl 6 (by decide) rfl nwF_X2_44 rfl dX2_oddsOverWithin_61 ?_
  refine lv_icmp_ge (tgt := 164) hx hb dX2_oddsOverWithin_64 (by decide) (fun c1 => ?_) (fun c1 => ?_)
  · have hB := if_p hB c1
    refine lv_aload_n hx hb dX2_oddsOverWithin_164 rfl (lv_at hl 0 rfl) ?_
    refine lv_aload_n hx hb dX2_oddsOverWithin_165 rfl (lv_at hl 1 rfl) ?_
    refine lv_iload hx hb dX2_oddsOverWithin_166 (lv_at hl 6 rfl) ?_
    obtain ⟨s2, hc, hB⟩ := bindP_inv hB
    refine q_govF (va_runV (As := [.ref (b 0), .int x6]) (rest := []) C (ckX2_unfind hc _) (cwV 2 hts gX2_oddsOverWithin_X2_unfind rfl rfl rfl (by decide +kernel) ⟨by dsimp only; omega, by dsimp only; omega⟩) (q_preV hK hP (ci := 2) (q0 := 42) rfl rfl rfl (q_preF hN hK hP hD)) rfl rfl hl.1 rfl (lv_room (Nat.le_of_ble_eq_true rfl)) dX2_oddsOverWithin_168 ⟨Nat.le_of_ble_eq_true rfl, Nat.le_of_ble_eq_true rfl⟩) hD hS hA (fun w1 H locs hw hP hD hS => ?_)
    subst hw
    refine lv_aload_n hx hb dX2_oddsOverWithin_171 rfl (lv_at hl 1 rfl) ?_
    refine q_getN (v := .ref (b 5)) C hN inX2_oddsOverWithin_X6 hK hP 0 rfl rfl 4 (by decide) rfl nwF_X2_117 rfl dX2_oddsOverWithin_172 ?_
    refine lv_iload_n hx hb dX2_oddsOverWithin_175 rfl (lv_at hl 2 rfl) ?_
    refine lv_dup2_11 hx hb dX2_oddsOverWithin_176 rfl rfl ?_
    obtain ⟨g3, hB⟩ := guard_inv hB
    refine q_iald (x := ((s2.d.f 4) (Int32.toNatClampNeg x2))) C hK hP 5 1 rfl rfl (vpb_in g3) dX2_oddsOverWithin_177 rfl ?_
    refine lv_iconst (v := 1) hx hb dX2_oddsOverWithin_178 (by decide) ?_
    refine lv_isub hx hb dX2_oddsOverWithin_179 ?_
    obtain ⟨g4, hB⟩ := guard_inv hB
    obtain ⟨s5, hs6, hB⟩ := letS_inv hB
    refine q_iast (f2 := (upd (s2.d.f 4) (Int32.toNatClampNeg x2) (((s2.d.f 4) (Int32.toNatClampNeg x2)) - 1))) (w2 := (wJ cB cI cJ cZ cS a b s5)) C hK hP hD hS 5 1 rfl rfl (vpb_in g4) dX2_oddsOverWithin_180 rfl (by subst hs6; rfl) (fun H locs hP hD hS => ?_)
    refine lv_iload hx hb dX2_oddsOverWithin_181 (lv_at hl 5 rfl) ?_
    exact q_iret C hr hlocks hK hP hD hS (Nat.le_of_ble_eq_true rfl) (Nat.le_of_ble_eq_true rfl) dX2_oddsOverWithin_183 (by cases hB; exact ⟨rfl, rfl⟩)
  · have hB := if_n hB c1
    refine lv_iload hx hb dX2_oddsOverWithin_67 (lv_at hl 4 rfl) ?_
    refine lv_iload hx hb dX2_oddsOverWithin_69 (lv_at hl 7 rfl) ?_
    obtain ⟨q_, hc, hB⟩ := bindP_inv hB
    refine q_goi0 (va_runSN (As := [.int x4, .int x7]) (rest := []) C (ckX10_thingIn hc _) ⟨va_cnB 2 hts gX2_oddsOverWithin_X10_thingIn_n65 rfl rfl rfl (hN _ nwM_X2_65 rfl) (hts _ LX2_oddsOverWithin_I_X10) (by decide +kernel) ⟨by dsimp only; omega, by dsimp only; omega⟩, hts _ LX2_oddsOverWithin_S_X10_thingIn, trivial⟩ (q_pre0 hN hK) rfl rfl hl.1 rfl (lv_room (Nat.le_of_ble_eq_true rfl)) dX2_oddsOverWithin_71 ⟨Nat.le_of_ble_eq_true rfl, Nat.le_of_ble_eq_true rfl⟩) hP hD hS hA (fun r7 w1 H locs hw hP hS => ?_)
    subst hw
    refine lv_istore (lv' := [(8, .int r7), (0, .ref (a 36)), (1, .ref (b 0)), (2, .int x2), (3, .int x3), (4, .int x4), (5, .int x5), (6, .int x6), (7, .int x7)]) hx hb dX2_oddsOverWithin_74 hl (by decide) rfl (fun ls hl => ?_)
    refine lv_aload_n hx hb dX2_oddsOverWithin_76 rfl (lv_at hl 1 rfl) ?_
    refine lv_aload_n hx hb dX2_oddsOverWithin_77 rfl (lv_at hl 2 rfl) ?_
    refine lv_iload hx hb dX2_oddsOverWithin_78 (lv_at hl 8 rfl) ?_
    obtain ⟨q_, s8, hc, hB⟩ := bindI_inv hB
    refine q_goiF (va_runV (As := [.ref (b 0), .int x7]) (rest := []) C (ckX2_mayCount hc _) (cwV 2 hts gX2_oddsOverWithin_X2_mayCount rfl rfl rfl (by decide +kernel) ⟨by dsimp only; omega, by dsimp only; omega⟩) (q_preV hK hP (ci := 2) (q0 := 42) rfl rfl rfl (q_preF hN hK hP hD)) rfl rfl hl.1 rfl (lv_room (Nat.le_of_ble_eq_true rfl)) dX2_oddsOverWithin_80 ⟨Nat.le_of_ble_eq_true rfl, Nat.le_of_ble_eq_true rfl⟩) hD hS hA (fun r9 w1 H locs hw hP hD hS => ?_)
    obtain ⟨hq_, hw⟩ := hw; subst hw; subst hq_
    refine lv_iconst (v := 1) hx hb dX2_oddsOverWithin_83 (by decide) ?_
    refine lv_icmp_le (tgt := 129) hx hb dX2_oddsOverWithin_84 (by decide) (fun c10 => ?_) (fun c10 => ?_)
    · have hB := if_p hB c10
      exact bkX2_oddsOverWithin_129 hR hfr hlo (hk55) _ _ _ _ _ _ _ _ hB p e s0 m below meth c A E H locs ls hP hD hS (lv_sub hl [1, 2, 3, 4, 5, 6, 7, 8, 0] rfl)
    · have hB := if_n hB c10
      refine lv_aload_n hx hb dX2_oddsOverWithin_87 rfl (lv_at hl 2 rfl) ?_
      refine q_getN (v := .ref (b 2)) C hN inX2_oddsOverWithin_X6 hK hP 0 rfl rfl 1 (by decide) rfl nwF_X2_122 rfl dX2_oddsOverWithin_88 ?_
      refine lv_iload hx hb dX2_oddsOverWithin_91 (lv_at hl 8 rfl) ?_
      refine lv_dup2_11 hx hb dX2_oddsOverWithin_93 rfl rfl ?_
      obtain ⟨g11, hB⟩ := guard_inv hB
      refine q_iald (x := ((s8.d.f 1) (Int32.toNatClampNeg x7))) C hK hP 2 1 rfl rfl (vpb_in g11) dX2_oddsOverWithin_94 rfl ?_
      refine lv_iconst (v := 1) hx hb dX2_oddsOverWithin_95 (by decide) ?_
      refine lv_iload hx hb dX2_oddsOverWithin_96 (lv_at hl 0 rfl) ?_
      refine lv_ishl hx hb dX2_oddsOverWithin_98 ?_
      refine lv_ixor hx hb dX2_oddsOverWithin_99 ?_
      obtain ⟨g12, hB⟩ := guard_inv hB
      obtain ⟨s13, hs14, hB⟩ := letS_inv hB
      refine q_iast (f2 := (upd (s8.d.f 1) (Int32.toNatClampNeg x7) (((s8.d.f 1) (Int32.toNatClampNeg x7)) ^^^ (1 <<< (r7 &&& 31))))) (w2 := (wJ cB cI cJ cZ cS a b s13)) C hK hP hD hS 2 1 rfl rfl (vpb_in g12) dX2_oddsOverWithin_100 rfl (by subst hs14; rfl) (fun H locs hP hD hS => ?_)
      refine lv_iload hx hb dX2_oddsOverWithin_101 (lv_at hl 6 rfl) ?_
      refine lv_aload_n hx hb dX2_oddsOverWithin_103 rfl (lv_at hl 1 rfl) ?_
      refine lv_aload_n hx hb dX2_oddsOverWithin_104 rfl (lv_at hl 2 rfl) ?_
      refine lv_iload_n hx hb dX2_oddsOverWithin_105 rfl (lv_at hl 3 rfl) ?_
      refine lv_iload_n hx hb dX2_oddsOverWithin_106 rfl (lv_at hl 4 rfl) ?_
      refine lv_iconst (v := 1) hx hb dX2_oddsOverWithin_107 (by decide) ?_
      refine lv_isub hx hb dX2_oddsOverWithin_108 ?_
      obtain ⟨q_, s15, hc, hB⟩ := bindI_inv hB
      refine q_goiF (va_runV (As := [.ref (b 0), .int x2, .int (x3 - 1)]) (rest := [.int x5]) C (hR hc _) (cwV 3 hts gX2_oddsOverWithin_X2_oddsOverWithin rfl rfl rfl (by decide +kernel) ⟨by dsimp only; omega, by dsimp only; omega⟩) (q_preV hK hP (ci := 2) (q0 := 42) rfl rfl rfl (q_preF hN hK hP hD)) rfl rfl hl.1 rfl (lv_room (Nat.le_of_ble_eq_true rfl)) dX2_oddsOverWithin_109 ⟨Nat.le_of_ble_eq_true rfl, Nat.le_of_ble_eq_true rfl⟩) hD hS hA (fun r16 w1 H locs hw hP hD hS => ?_)
      obtain ⟨hq_, hw⟩ := hw; subst hw; subst hq_
      refine lv_iadd hx hb dX2_oddsOverWithin_112 ?_
      refine lv_istore (lv' := [(5, .int (x5 + r16)), (8, .int r7), (0, .ref (a 36)), (1, .ref (b 0)), (2, .int x2), (3, .int x3), (4, .int x4), (6, .int x6), (7, .int x7)]) hx hb dX2_oddsOverWithin_113 hl (by decide) rfl (fun ls hl => ?_)
      refine lv_aload_n hx hb dX2_oddsOverWithin_115 rfl (lv_at hl 3 rfl) ?_
      refine q_getN (v := .ref (b 2)) C hN inX2_oddsOverWithin_X6 hK hP 0 rfl rfl 1 (by decide) rfl nwF_X2_122 rfl dX2_oddsOverWithin_116 ?_
      refine lv_iload hx hb dX2_oddsOverWithin_119 (lv_at hl 8 rfl) ?_
      refine lv_dup2_11 hx hb dX2_oddsOverWithin_121 rfl rfl ?_
      obtain ⟨g17, hB⟩ := guard_inv hB
      refine q_iald (x := ((s15.d.f 1) (Int32.toNatClampNeg x7))) C hK hP 2 1 rfl rfl (vpb_in g17) dX2_oddsOverWithin_122 rfl ?_
      refine lv_iconst (v := 1) hx hb dX2_oddsOverWithin_123 (by decide) ?_
      refine lv_iload hx hb dX2_oddsOverWithin_124 (lv_at hl 1 rfl) ?_
      refine lv_ishl hx hb dX2_oddsOverWithin_126 ?_
      refine lv_ixor hx hb dX2_oddsOverWithin_127 ?_
      obtain ⟨g18, hB⟩ := guard_inv hB
      obtain ⟨s19, hs20, hB⟩ := letS_inv hB
      refine q_iast (f2 := (upd (s15.d.f 1) (Int32.toNatClampNeg x7) (((s15.d.f 1) (Int32.toNatClampNeg x7)) ^^^ (1 <<< (r7 &&& 31))))) (w2 := (wJ cB cI cJ cZ cS a b s19)) C hK hP hD hS 2 1 rfl rfl (vpb_in g18) dX2_oddsOverWithin_128 rfl (by subst hs20; rfl) (fun H locs hP hD hS => ?_)
      exact bkX2_oddsOverWithin_129 hR hfr hlo (hk55) _ _ _ _ _ _ _ _ hB p e s0 m below meth c A E H locs ls hP hD hS (lv_sub hl [2, 3, 4, 5, 6, 0, 7, 8, 1] rfl)
theorem bkX2_oddsOverWithin_55L {l : Launch} {dC : Nat → ClassId} {dI : Nat → Nat → Nat} {cB cI cJ cZ cS : ClassId} {a b : Nat → Nat} {R : JS → Int32 → Int32 → Option (Int32 × JS)} {fr lo : Nat} (hR : ∀ {s : JS} {x2 x3 r : Int32} {s' : JS}, R s x2 x3 = some (r, s') → CI l yX2_oddsOverWithin wsX2_oddsOverWithin ({ frames := fr, cells := 0, slots := 0, locals := lo }) (dC, dI) (tysA cB cI cJ cZ cS) (wJ cB cI cJ cZ cS a b s) [.ref (a 36), .ref (b 0), .int x2, .int x3] (fun x u => x = r ∧ u = wJ cB cI cJ cZ cS a b s')) (hfr : 6 ≤ fr) (hlo : 152 ≤ lo) {as : List Value} {r : Int32} {s' : JS} : ∀ (n : Nat) (s : JS) (x2 : Int32) (x3 : Int32) (x4 : Int32) (x5 : Int32) (x6 : Int32) (x7 : Int32), kX2_oddsOverWithin_55L R n s x2 x3 x4 x5 x6 x7 = some (r, s') → BlkI l yX2_oddsOverWithin wsX2_oddsOverWithin ({ frames := fr + 1, cells := 0, slots := 0, locals := lo + 28 }) cX2_oddsOverWithin 9 (some .int) (dC, dI) (tysA cB cI cJ cZ cS) as 55 (wJ cB cI cJ cZ cS a b s) [(0, .ref (a 36)), (1, .ref (b 0)), (2, .int x2), (3, .int x3), (4, .int x4), (5, .int x5), (6, .int x6), (7, .int x7)] [] (fun x u => x = r ∧ u = (wJ cB cI cJ cZ cS a b s')) := by
  intro n
  induction n with
  | zero => intro s x2 x3 x4 x5 x6 x7 hB; exact none_ne hB
  | succ n ih => intro s x2 x3 x4 x5 x6 x7 hB; exact bkX2_oddsOverWithin_55 hR hfr hlo ih _ _ _ _ _ _ _ hB
set_option maxHeartbeats 4000000 in
set_option maxRecDepth 100000 in
theorem bkX2_oddsOverWithin {l : Launch} {dC : Nat → ClassId} {dI : Nat → Nat → Nat} {cB cI cJ cZ cS : ClassId} {a b : Nat → Nat} {R : JS → Int32 → Int32 → Option (Int32 × JS)} {fr lo : Nat} (hR : ∀ {s : JS} {x2 x3 r : Int32} {s' : JS}, R s x2 x3 = some (r, s') → CI l yX2_oddsOverWithin wsX2_oddsOverWithin ({ frames := fr, cells := 0, slots := 0, locals := lo }) (dC, dI) (tysA cB cI cJ cZ cS) (wJ cB cI cJ cZ cS a b s) [.ref (a 36), .ref (b 0), .int x2, .int x3] (fun x u => x = r ∧ u = wJ cB cI cJ cZ cS a b s')) (hfr : 6 ≤ fr) (hlo : 152 ≤ lo) {as : List Value} {r : Int32} {s' : JS} (s : JS) (x2 : Int32) (x3 : Int32) (hB : kX2_oddsOverWithin R s x2 x3 = some (r, s')) : BlkI l yX2_oddsOverWithin wsX2_oddsOverWithin ({ frames := fr + 1, cells := 0, slots := 0, locals := lo + 28 }) cX2_oddsOverWithin 9 (some .int) (dC, dI) (tysA cB cI cJ cZ cS) as 0 (wJ cB cI cJ cZ cS a b s) [(0, .ref (a 36)), (1, .ref (b 0)), (2, .int x2), (3, .int x3)] [] (fun x u => x = r ∧ u = (wJ cB cI cJ cZ cS a b s')) := by
  intro p e s0 m below meth c A E H locs ls hP hD hS hl
  obtain ⟨C, hr, hlocks, hA, hK, hN⟩ := id E
  obtain ⟨hx, hb, hml, hown, hts⟩ := id C
  unfold kX2_oddsOverWithin at hB
  refine lv_aload_n hx hb dX2_oddsOverWithin_0 rfl (lv_at hl 0 rfl) ?_
  refine lv_aload_n hx hb dX2_oddsOverWithin_1 rfl (lv_at hl 1 rfl) ?_
  refine lv_iload_n hx hb dX2_oddsOverWithin_2 rfl (lv_at hl 2 rfl) ?_
  obtain ⟨q_, s1, hc, hB⟩ := bindI_inv hB
  refine q_goiF (va_runV (As := [.ref (b 0), .int x2]) (rest := []) C (ckX2_bestGuess hc _) (cwV 2 hts gX2_oddsOverWithin_X2_bestGuess rfl rfl rfl (by decide +kernel) ⟨by dsimp only; omega, by dsimp only; omega⟩) (q_preV hK hP (ci := 2) (q0 := 42) rfl rfl rfl (q_preF hN hK hP hD)) rfl rfl hl.1 rfl (lv_room (Nat.le_of_ble_eq_true rfl)) dX2_oddsOverWithin_3 ⟨Nat.le_of_ble_eq_true rfl, Nat.le_of_ble_eq_true rfl⟩) hD hS hA (fun r2 w1 H locs hw hP hD hS => ?_)
  obtain ⟨hq_, hw⟩ := hw; subst hw; subst hq_
  refine lv_istore (lv' := [(4, .int r2), (0, .ref (a 36)), (1, .ref (b 0)), (2, .int x2), (3, .int x3)]) hx hb dX2_oddsOverWithin_6 hl (by decide) rfl (fun ls hl => ?_)
  refine lv_iload hx hb dX2_oddsOverWithin_8 (lv_at hl 0 rfl) ?_
  refine lv_bipush (v := (-2)) hx hb dX2_oddsOverWithin_10 (by decide) ?_
  refine lv_icmp_eq (tgt := 20) hx hb dX2_oddsOverWithin_12 (by decide) (fun c3 => ?_) (fun c3 => ?_)
  · have hB := if_p hB c3
    refine lv_iconst (v := 0) hx hb dX2_oddsOverWithin_20 (by decide) ?_
    exact q_iret C hr hlocks hK hP hD hS (Nat.le_of_ble_eq_true rfl) (Nat.le_of_ble_eq_true rfl) dX2_oddsOverWithin_21 (by cases hB; exact ⟨rfl, rfl⟩)
  · have hB := if_n hB c3
    refine lv_iload_n hx hb dX2_oddsOverWithin_15 rfl (lv_at hl 4 rfl) ?_
    refine lv_iconst (v := 1) hx hb dX2_oddsOverWithin_16 (by decide) ?_
    refine lv_icmp_ge (tgt := 22) hx hb dX2_oddsOverWithin_17 (by decide) (fun c4 => ?_) (fun c4 => ?_)
    · have hB := if_p hB c4
      refine lv_aload_n hx hb dX2_oddsOverWithin_22 rfl (lv_at hl 1 rfl) ?_
      refine lv_aload_n hx hb dX2_oddsOverWithin_23 rfl (lv_at hl 2 rfl) ?_
      refine lv_iload hx hb dX2_oddsOverWithin_24 (lv_at hl 0 rfl) ?_
      obtain ⟨q_, s5, hc, hB⟩ := bindI_inv hB
      refine q_goiF (va_runV (As := [.ref (b 0), .int r2]) (rest := []) C (ckX2_oddsOf hc _) (cwV 2 hts gX2_oddsOverWithin_X2_oddsOf rfl rfl rfl (by decide +kernel) ⟨by dsimp only; omega, by dsimp only; omega⟩) (q_preV hK hP (ci := 2) (q0 := 42) rfl rfl rfl (q_preF hN hK hP hD)) rfl rfl hl.1 rfl (lv_room (Nat.le_of_ble_eq_true rfl)) dX2_oddsOverWithin_26 ⟨Nat.le_of_ble_eq_true rfl, Nat.le_of_ble_eq_true rfl⟩) hD hS hA (fun r6 w1 H locs hw hP hD hS => ?_)
      obtain ⟨hq_, hw⟩ := hw; subst hw; subst hq_
      refine lv_istore (lv' := [(5, .int r6), (4, .int r2), (0, .ref (a 36)), (1, .ref (b 0)), (2, .int x2), (3, .int x3)]) hx hb dX2_oddsOverWithin_29 hl (by decide) rfl (fun ls hl => ?_)
      refine lv_iload_n hx hb dX2_oddsOverWithin_31 rfl (lv_at hl 5 rfl) ?_
      refine lv_iconst (v := 1) hx hb dX2_oddsOverWithin_32 (by decide) ?_
      refine lv_icmp_ne (tgt := 39) hx hb dX2_oddsOverWithin_33 (by decide) (fun c7 => ?_) (fun c7 => ?_)
      · have hB := if_n hB c7
        refine lv_aload_n hx hb dX2_oddsOverWithin_39 rfl (lv_at hl 3 rfl) ?_
        refine q_getN (v := .ref (b 5)) C hN inX2_oddsOverWithin_X6 hK hP 0 rfl rfl 4 (by decide) rfl nwF_X2_117 rfl dX2_oddsOverWithin_40 ?_
        refine lv_iload_n hx hb dX2_oddsOverWithin_43 rfl (lv_at hl 4 rfl) ?_
        refine lv_dup2_11 hx hb dX2_oddsOverWithin_44 rfl rfl ?_
        obtain ⟨g8, hB⟩ := guard_inv hB
        refine q_iald (x := ((s5.d.f 4) (Int32.toNatClampNeg x2))) C hK hP 5 1 rfl rfl (vpb_in g8) dX2_oddsOverWithin_45 rfl ?_
        refine lv_iconst (v := 1) hx hb dX2_oddsOverWithin_46 (by decide) ?_
        refine lv_iadd hx hb dX2_oddsOverWithin_47 ?_
        obtain ⟨g9, hB⟩ := guard_inv hB
        obtain ⟨s10, hs11, hB⟩ := letS_inv hB
        refine q_iast (f2 := (upd (s5.d.f 4) (Int32.toNatClampNeg x2) (((s5.d.f 4) (Int32.toNatClampNeg x2)) + 1))) (w2 := (wJ cB cI cJ cZ cS a b s10)) C hK hP hD hS 5 1 rfl rfl (vpb_in g9) dX2_oddsOverWithin_48 rfl (by subst hs11; rfl) (fun H locs hP hD hS => ?_)
        refine lv_iconst (v := 0) hx hb dX2_oddsOverWithin_49 (by decide) ?_
        refine lv_istore (lv' := [(6, .int 0), (5, .int r6), (4, .int r2), (0, .ref (a 36)), (1, .ref (b 0)), (2, .int x2), (3, .int x3)]) hx hb dX2_oddsOverWithin_50 hl (by decide) rfl (fun ls hl => ?_)
        refine lv_iconst (v := 0) hx hb dX2_oddsOverWithin_52 (by decide) ?_
        refine lv_istore (lv' := [(7, .int 0), (6, .int 0), (5, .int r6), (4, .int r2), (0, .ref (a 36)), (1, .ref (b 0)), (2, .int x2), (3, .int x3)]) hx hb dX2_oddsOverWithin_53 hl (by decide) rfl (fun ls hl => ?_)
        exact bkX2_oddsOverWithin_55L hR hfr hlo fu _ _ _ _ _ _ _ hB p e s0 m below meth c A E H locs ls hP hD hS (lv_sub hl [4, 5, 6, 7, 3, 2, 1, 0] rfl)
      · have hB := if_p hB c7
        refine lv_iload hx hb dX2_oddsOverWithin_36 (lv_at hl 0 rfl) ?_
        exact q_iret C hr hlocks hK hP hD hS (Nat.le_of_ble_eq_true rfl) (Nat.le_of_ble_eq_true rfl) dX2_oddsOverWithin_38 (by cases hB; exact ⟨rfl, rfl⟩)
    · have hB := if_n hB c4
      refine lv_iconst (v := 0) hx hb dX2_oddsOverWithin_20 (by decide) ?_
      exact q_iret C hr hlocks hK hP hD hS (Nat.le_of_ble_eq_true rfl) (Nat.le_of_ble_eq_true rfl) dX2_oddsOverWithin_21 (by cases hB; exact ⟨rfl, rfl⟩)
theorem ckX2_oddsOverWithin {l : Launch} {dC : Nat → ClassId} {dI : Nat → Nat → Nat} {cB cI cJ cZ cS : ClassId} {a b : Nat → Nat} {R : JS → Int32 → Int32 → Option (Int32 × JS)} {fr lo : Nat} (hR : ∀ {s : JS} {x2 x3 r : Int32} {s' : JS}, R s x2 x3 = some (r, s') → CI l yX2_oddsOverWithin wsX2_oddsOverWithin ({ frames := fr, cells := 0, slots := 0, locals := lo }) (dC, dI) (tysA cB cI cJ cZ cS) (wJ cB cI cJ cZ cS a b s) [.ref (a 36), .ref (b 0), .int x2, .int x3] (fun x u => x = r ∧ u = wJ cB cI cJ cZ cS a b s')) (hfr : 6 ≤ fr) (hlo : 152 ≤ lo) {r : Int32} {s' : JS} {s : JS} {x2 : Int32} {x3 : Int32} (hB : kX2_oddsOverWithin R s x2 x3 = some (r, s')) : CI l yX2_oddsOverWithin wsX2_oddsOverWithin ({ frames := fr + 1, cells := 0, slots := 0, locals := lo + 28 }) (dC, dI) (tysA cB cI cJ cZ cS) (wJ cB cI cJ cZ cS a b s) [.ref (a 36), .ref (b 0), .int x2, .int x3] (fun x u => x = r ∧ u = (wJ cB cI cJ cZ cS a b s')) :=
  CI_of (cc := cX2_oddsOverWithin) (maxL := 9) (ret := (some .int)) (by decide) rfl (Nat.le_of_ble_eq_true rfl) (bkX2_oddsOverWithin hR hfr hlo _ _ _ hB)
theorem ckX2_oddsOverWithinR {l : Launch} {dC : Nat → ClassId} {dI : Nat → Nat → Nat} {cB cI cJ cZ cS : ClassId} {a b : Nat → Nat} : ∀ (n : Nat) {s : JS} {x2 : Int32} {x3 : Int32} {r : Int32} {s' : JS}, kX2_oddsOverWithinR n s x2 x3 = some (r, s') → CI l yX2_oddsOverWithin wsX2_oddsOverWithin ({ frames := 6 + 1 * n, cells := 0, slots := 0, locals := 152 + 28 * n }) (dC, dI) (tysA cB cI cJ cZ cS) (wJ cB cI cJ cZ cS a b s) [.ref (a 36), .ref (b 0), .int x2, .int x3] (fun x u => x = r ∧ u = wJ cB cI cJ cZ cS a b s') := by
  intro n
  induction n with
  | zero => intro _ _ _ _ _ hB; exact none_ne hB
  | succ n ih =>
    intro _ _ _ _ _ hB
    have h := ckX2_oddsOverWithin (R := kX2_oddsOverWithinR n) ih (by omega) (by omega) hB
    exact h
theorem ckX2_oddsOverWithin_9 {l : Launch} {dC : Nat → ClassId} {dI : Nat → Nat → Nat} {cB cI cJ cZ cS : ClassId} {a b : Nat → Nat} {s : JS} {x2 : Int32} {x3 : Int32} {r : Int32} {s' : JS} (hB : kX2_oddsOverWithinR 9 s x2 x3 = some (r, s')) : CI l yX2_oddsOverWithin wsX2_oddsOverWithin ({ frames := 15, cells := 0, slots := 0, locals := 404 }) (dC, dI) (tysA cB cI cJ cZ cS) (wJ cB cI cJ cZ cS a b s) [.ref (a 36), .ref (b 0), .int x2, .int x3] (fun x u => x = r ∧ u = wJ cB cI cJ cZ cS a b s') := ckX2_oddsOverWithinR 9 hB
theorem LX4_readPart_12 : Cond.fieldLink RX4 12 "GuessFerry$Reader" "draft" "LGuessFerry$Sound;" ∈ wsX4_readPart := (List.mem_cons_of_mem _ (List.mem_append_left _ (List.mem_append_left _ (List.mem_append_left _ (List.mem_append_left _ (List.mem_append_left _ (List.mem_of_getElem? (i := 0) rfl)))))))
theorem LX4_readPart_E_X1_endPart : Cond.selects RX1 yX1_endPart yX1_endPart ∈ wsX4_readPart := (List.mem_cons_of_mem _ (List.mem_append_left _ (List.mem_append_left _ (List.mem_append_left _ (List.mem_append_left _ (List.mem_append_left _ (List.mem_of_getElem? (i := 10) rfl)))))))
theorem LX4_readPart_I_X1 : Cond.initialized RX1 ∈ wsX4_readPart := (List.mem_cons_of_mem _ (List.mem_append_left _ (List.mem_append_left _ (List.mem_append_left _ (List.mem_append_left _ (List.mem_append_left _ (List.mem_of_getElem? (i := 8) rfl)))))))
theorem LX4_readPart_N_X1_endPart : Cond.instanceMethod yX1_endPart ∈ wsX4_readPart := (List.mem_cons_of_mem _ (List.mem_append_left _ (List.mem_append_left _ (List.mem_append_left _ (List.mem_append_left _ (List.mem_append_left _ (List.mem_of_getElem? (i := 9) rfl)))))))
theorem inX4_readPart_X4 : ∀ w ∈ u_ws RX4 TX4 8, w ∈ wsX4_readPart := fun w h => (List.mem_cons_of_mem _ (List.mem_append_left _ (List.mem_append_left _ (List.mem_append_left _ (List.mem_append_right _ h)))))
theorem inX4_readPart_X5 : ∀ w ∈ u_ws RX5 TX5 10, w ∈ wsX4_readPart := fun w h => (List.mem_cons_of_mem _ (List.mem_append_left _ (List.mem_append_left _ (List.mem_append_right _ h))))
set_option maxHeartbeats 4000000 in
set_option maxRecDepth 100000 in
theorem bkX4_readPart {l : Launch} {dC : Nat → ClassId} {dI : Nat → Nat → Nat} {cB cI cJ cZ cS : ClassId} {a : Nat → Nat} {as : List Value} {s' : KS} (s : KS) (x1 : Int32) (hB : kX4_readPart s x1 = some s') : BlkV l yX4_readPart wsX4_readPart ({ frames := 27, cells := 0, slots := 0, locals := 617 }) cX4_readPart 2 none (dC, dI) (tysA cB cI cJ cZ cS) as 0 (wK cB cI cJ cZ cS a s) [(0, .ref (a 28)), (1, .int x1)] [] (fun u => u = (wK cB cI cJ cZ cS a s')) := by
  intro p e s0 m below meth c A E H locs ls hP hD hS hl
  obtain ⟨C, hr, hlocks, hA, hK, hN⟩ := id E
  obtain ⟨hx, hb, hml, hown, hts⟩ := id C
  unfold kX4_readPart at hB
  refine lv_aload_n hx hb dX4_readPart_0 rfl (lv_at hl 0 rfl) ?_
  refine lv_iconst (v := 0) hx hb dX4_readPart_1 (by decide) ?_
  obtain ⟨s1, hc, hB⟩ := bindP_inv hB
  refine q_govF (va_runV (As := [.int 0]) (rest := []) C (ckX4_readSum_8 hc _) (cwV 1 hts gX4_readPart_X4_readSum rfl rfl rfl (by decide +kernel) ⟨Nat.le_of_ble_eq_true rfl, Nat.le_of_ble_eq_true rfl⟩) (q_preV hK hP (ci := 4) (q0 := 28) rfl rfl rfl (q_preF hN hK hP hD)) rfl rfl hl.1 rfl (lv_room (Nat.le_of_ble_eq_true rfl)) dX4_readPart_2 ⟨Nat.le_of_ble_eq_true rfl, Nat.le_of_ble_eq_true rfl⟩) hD hS hA (fun w1 H locs hw hP hD hS => ?_)
  subst hw
  refine lv_aload_n hx hb dX4_readPart_5 rfl (lv_at hl 0 rfl) ?_
  refine q_get (v := .ref (a 15)) C inX4_readPart_X4 hK hP 28 rfl rfl 1 (by decide) rfl LX4_readPart_12 rfl dX4_readPart_6 ?_
  refine q_getN (v := .ref (a 21)) C hN inX4_readPart_X5 hK hP 15 rfl rfl 5 (by decide) rfl nwF_X4_119 rfl dX4_readPart_9 ?_
  obtain ⟨s2, hc, hB⟩ := bindP_inv hB
  refine q_govF (va_runVN (As := []) (rest := []) C (ckX1_endPart hc _) ⟨va_cnB 0 hts gX4_readPart_X1_endPart_n134 rfl rfl rfl (hN _ nwM_X4_134 rfl) (hts _ LX4_readPart_I_X1) (by decide +kernel) ⟨Nat.le_of_ble_eq_true rfl, Nat.le_of_ble_eq_true rfl⟩, hts _ LX4_readPart_N_X1_endPart, hts _ LX4_readPart_E_X1_endPart⟩ (q_preV hK hP (ci := 1) (q0 := 21) rfl rfl rfl (q_preF hN hK hP hD)) rfl rfl hl.1 rfl (lv_room (Nat.le_of_ble_eq_true rfl)) dX4_readPart_12 ⟨Nat.le_of_ble_eq_true rfl, Nat.le_of_ble_eq_true rfl⟩) hD hS hA (fun w1 H locs hw hP hD hS => ?_)
  subst hw
  refine lv_aload_n hx hb dX4_readPart_15 rfl (lv_at hl 0 rfl) ?_
  refine lv_iload_n hx hb dX4_readPart_16 rfl (lv_at hl 1 rfl) ?_
  obtain ⟨s3, hc, hB⟩ := bindP_inv hB
  refine q_govF (va_runV (As := [.int x1]) (rest := []) C (ckX4_take hc _) (cwV 1 hts gX4_readPart_X4_take rfl rfl rfl (by decide +kernel) ⟨Nat.le_of_ble_eq_true rfl, Nat.le_of_ble_eq_true rfl⟩) (q_preV hK hP (ci := 4) (q0 := 28) rfl rfl rfl (q_preF hN hK hP hD)) rfl rfl hl.1 rfl (lv_room (Nat.le_of_ble_eq_true rfl)) dX4_readPart_17 ⟨Nat.le_of_ble_eq_true rfl, Nat.le_of_ble_eq_true rfl⟩) hD hS hA (fun w1 H locs hw hP hD hS => ?_)
  subst hw
  exact q_vret C hr hlocks hK hP hD hS (Nat.le_of_ble_eq_true rfl) (Nat.le_of_ble_eq_true rfl) dX4_readPart_20 (by cases hB; rfl)
theorem ckX4_readPart {l : Launch} {dC : Nat → ClassId} {dI : Nat → Nat → Nat} {cB cI cJ cZ cS : ClassId} {a : Nat → Nat} {s' : KS} {s : KS} {x1 : Int32} (hB : kX4_readPart s x1 = some s') : CV l yX4_readPart wsX4_readPart ({ frames := 27, cells := 0, slots := 0, locals := 617 }) (dC, dI) (tysA cB cI cJ cZ cS) (wK cB cI cJ cZ cS a s) [.ref (a 28), .int x1] (fun u => u = (wK cB cI cJ cZ cS a s')) :=
  CV_of (cc := cX4_readPart) (maxL := 2) (ret := none) (by decide) rfl (Nat.le_of_ble_eq_true rfl) (bkX4_readPart _ _ hB)
theorem LX10_years_35 : Cond.fieldLink RX10 35 "GuessFerry" "now" "LGuessFerry$Standing;" ∈ wsX10_years := (List.mem_cons_of_mem _ (List.mem_append_left _ (List.mem_append_left _ (List.mem_append_left _ (List.mem_append_left _ (List.mem_append_left _ (List.mem_append_left _ (List.mem_append_left _ (List.mem_of_getElem? (i := 1) rfl)))))))))
theorem LX10_years_45 : Cond.fieldLink RX10 45 "GuessFerry" "past" "LGuessFerry$Past;" ∈ wsX10_years := (List.mem_cons_of_mem _ (List.mem_append_left _ (List.mem_append_left _ (List.mem_append_left _ (List.mem_append_left _ (List.mem_append_left _ (List.mem_append_left _ (List.mem_append_left _ (List.mem_of_getElem? (i := 0) rfl)))))))))
theorem LX10_years_54 : Cond.fieldLink RX10 54 "GuessFerry" "crossing" "LGuessFerry$Crossing;" ∈ wsX10_years := (List.mem_cons_of_mem _ (List.mem_append_left _ (List.mem_append_left _ (List.mem_append_left _ (List.mem_append_left _ (List.mem_append_left _ (List.mem_append_left _ (List.mem_append_left _ (List.mem_of_getElem? (i := 2) rfl)))))))))
theorem LX10_years_E_X0_passYears : Cond.selects RX0 yX0_passYears yX0_passYears ∈ wsX10_years := (List.mem_cons_of_mem _ (List.mem_append_left _ (List.mem_append_left _ (List.mem_append_left _ (List.mem_append_left _ (List.mem_append_left _ (List.mem_append_left _ (List.mem_append_left _ (List.mem_of_getElem? (i := 8) rfl)))))))))
theorem LX10_years_E_X3_remember : Cond.selects RX3 yX3_remember yX3_remember ∈ wsX10_years := (List.mem_cons_of_mem _ (List.mem_append_left _ (List.mem_append_left _ (List.mem_append_left _ (List.mem_append_left _ (List.mem_append_left _ (List.mem_append_left _ (List.mem_append_left _ (List.mem_of_getElem? (i := 5) rfl)))))))))
theorem LX10_years_I_X0 : Cond.initialized RX0 ∈ wsX10_years := (List.mem_cons_of_mem _ (List.mem_append_left _ (List.mem_append_left _ (List.mem_append_left _ (List.mem_append_left _ (List.mem_append_left _ (List.mem_append_left _ (List.mem_append_left _ (List.mem_of_getElem? (i := 7) rfl)))))))))
theorem LX10_years_I_X3 : Cond.initialized RX3 ∈ wsX10_years := (List.mem_cons_of_mem _ (List.mem_append_left _ (List.mem_append_left _ (List.mem_append_left _ (List.mem_append_left _ (List.mem_append_left _ (List.mem_append_left _ (List.mem_append_left _ (List.mem_of_getElem? (i := 4) rfl)))))))))
theorem LX10_years_N_X0_passYears : Cond.instanceMethod yX0_passYears ∈ wsX10_years := (List.mem_cons_of_mem _ (List.mem_append_left _ (List.mem_append_left _ (List.mem_append_left _ (List.mem_append_left _ (List.mem_append_left _ (List.mem_append_left _ (List.mem_append_left _ (List.mem_of_getElem? (i := 6) rfl)))))))))
theorem LX10_years_N_X3_remember : Cond.instanceMethod yX3_remember ∈ wsX10_years := (List.mem_cons_of_mem _ (List.mem_append_left _ (List.mem_append_left _ (List.mem_append_left _ (List.mem_append_left _ (List.mem_append_left _ (List.mem_append_left _ (List.mem_append_left _ (List.mem_of_getElem? (i := 3) rfl)))))))))
theorem inX10_years_X10 : ∀ w ∈ u_ws RX10 TX10 9, w ∈ wsX10_years := fun w h => (List.mem_cons_of_mem _ (List.mem_append_left _ (List.mem_append_left _ (List.mem_append_left _ (List.mem_append_left _ (List.mem_append_left _ (List.mem_append_right _ h)))))))
theorem inX10_years_X6 : ∀ w ∈ u_ws RX6 TX6 7, w ∈ wsX10_years := fun w h => (List.mem_cons_of_mem _ (List.mem_append_left _ (List.mem_append_left _ (List.mem_append_left _ (List.mem_append_left _ (List.mem_append_right _ h))))))
set_option maxHeartbeats 4000000 in
set_option maxRecDepth 100000 in
theorem bkX10_years {l : Launch} {dC : Nat → ClassId} {dI : Nat → Nat → Nat} {cB cI cJ cZ cS : ClassId} {a b b2 c0 : Nat → Nat} {bb : Nat → Nat → Nat} {as : List Value} {r : Int32} {s' : YS} (s : YS) (x1 : Int32) (hB : kX10_years s x1 = some (r, s')) : BlkI l yX10_years wsX10_years ({ frames := 6, cells := 0, slots := 0, locals := 145 }) cX10_years 2 (some .int) (dC, dI) (tysA cB cI cJ cZ cS) as 0 (wY cB cI cJ cZ cS a b b2 c0 bb s) [(0, .ref (c0 0)), (1, .int x1)] [] (fun x u => x = r ∧ u = (wY cB cI cJ cZ cS a b b2 c0 bb s')) := by
  intro p e s0 m below meth c A E H locs ls hP hD hS hl
  obtain ⟨C, hr, hlocks, hA, hK, hN⟩ := id E
  obtain ⟨hx, hb, hml, hown, hts⟩ := id C
  unfold kX10_years at hB
  refine lv_iload_n hx hb dX10_years_0 rfl (lv_at hl 1 rfl) ?_
  refine lv_if_lt (tgt := 10) hx hb dX10_years_1 (by decide) (fun c1 => ?_) (fun c1 => ?_)
  · have hB := if_p hB c1
    refine lv_iconst (v := (-1)) hx hb dX10_years_10 (by decide) ?_
    exact q_iret C hr hlocks hK hP hD hS (Nat.le_of_ble_eq_true rfl) (Nat.le_of_ble_eq_true rfl) dX10_years_11 (by cases hB; exact ⟨rfl, rfl⟩)
  · have hB := if_n hB c1
    refine lv_iload_n hx hb dX10_years_4 rfl (lv_at hl 1 rfl) ?_
    refine lv_bipush (v := 40) hx hb dX10_years_5 (by decide) ?_
    refine lv_icmp_le (tgt := 12) hx hb dX10_years_7 (by decide) (fun c2 => ?_) (fun c2 => ?_)
    · have hB := if_p hB c2
      refine lv_iload_n hx hb dX10_years_12 rfl (lv_at hl 1 rfl) ?_
      refine lv_if_le (tgt := 39) hx hb dX10_years_13 (by decide) (fun c3 => ?_) (fun c3 => ?_)
      · have hB := if_p hB c3
        refine lv_aload_n hx hb dX10_years_39 rfl (lv_at hl 0 rfl) ?_
        refine q_get (v := .ref (b 0)) C inX10_years_X10 hK hP 0 rfl rfl 3 (by decide) rfl LX10_years_35 rfl dX10_years_40 ?_
        refine q_getN (v := .int (s.x.n.v 5)) C hN inX10_years_X6 hK hP 11 rfl rfl 5 (by decide) rfl nwF_X10_189 rfl dX10_years_43 ?_
        exact q_iret C hr hlocks hK hP hD hS (Nat.le_of_ble_eq_true rfl) (Nat.le_of_ble_eq_true rfl) dX10_years_46 (by cases hB; exact ⟨rfl, rfl⟩)
      · have hB := if_n hB c3
        refine lv_aload_n hx hb dX10_years_16 rfl (lv_at hl 0 rfl) ?_
        refine q_get (v := .ref (c0 1)) C inX10_years_X10 hK hP 0 rfl rfl 5 (by decide) rfl LX10_years_45 rfl dX10_years_17 ?_
        refine lv_aload_n hx hb dX10_years_20 rfl (lv_at hl 0 rfl) ?_
        refine q_get (v := .ref (b 0)) C inX10_years_X10 hK hP 0 rfl rfl 3 (by decide) rfl LX10_years_35 rfl dX10_years_21 ?_
        obtain ⟨s4, hc, hB⟩ := bindP_inv hB
        refine q_govP (wr := ((wD cI b2 s.x.t) ++ (wK cB cI cJ cZ cS a s.x.k))) (va_runVN (As := [.ref (b 0)]) (rest := []) C (ckX3_remember hc _) ⟨va_cnB 1 hts gX10_years_X3_remember_n173 rfl rfl rfl (hN _ nwM_X10_173 rfl) (hts _ LX10_years_I_X3) (by decide +kernel) ⟨Nat.le_of_ble_eq_true rfl, Nat.le_of_ble_eq_true rfl⟩, hts _ LX10_years_N_X3_remember, hts _ LX10_years_E_X3_remember⟩ (q_preV hK hP (ci := 3) (q0 := 1) rfl rfl rfl (q_preP hN hK hP hD [0, 1, 2, 3, 4, 11, 12, 13, 14, 15, 16] rfl (by decide))) rfl rfl hl.1 rfl (lv_room (Nat.le_of_ble_eq_true rfl)) dX10_years_24 ⟨Nat.le_of_ble_eq_true rfl, Nat.le_of_ble_eq_true rfl⟩) hP hD hS hA [0, 1, 2, 3, 4, 11, 12, 13, 14, 15, 16] [5, 6, 7, 8, 9, 10, 17, 18, 19, 20, 21, 22, 23, 24, 25, 26, 27, 28, 29, 30, 31, 32, 33, 34, 35, 36, 37, 38, 39, 40, 41, 42, 43, 44, 45, 46, 47, 48, 49, 50, 51, 52, 53, 54, 55, 56, 57, 58, 59, 60, 61, 62, 63] rfl rfl (by decide) (by decide) (fun H locs hP hD hS => ?_)
        obtain ⟨s5, hs6, hB⟩ := letS_inv hB
        have hP : va_P (dC, dI) vwCl (wY cB cI cJ cZ cS a b b2 c0 bb s5) H := by subst hs6; exact hP.part [53, 54, 55, 56, 57, 0, 1, 2, 3, 4, 5, 58, 59, 60, 61, 62, 63, 6, 7, 8, 9, 10, 11, 12, 13, 14, 15, 16, 17, 18, 19, 20, 21, 22, 23, 24, 25, 26, 27, 28, 29, 30, 31, 32, 33, 34, 35, 36, 37, 38, 39, 40, 41, 42, 43, 44, 45, 46, 47, 48, 49, 50, 51, 52] rfl
        have hD : va_D A (wY cB cI cJ cZ cS a b b2 c0 bb s5) := by subst hs6; exact hD.part [53, 54, 55, 56, 57, 0, 1, 2, 3, 4, 5, 58, 59, 60, 61, 62, 63, 6, 7, 8, 9, 10, 11, 12, 13, 14, 15, 16, 17, 18, 19, 20, 21, 22, 23, 24, 25, 26, 27, 28, 29, 30, 31, 32, 33, 34, 35, 36, 37, 38, 39, 40, 41, 42, 43, 44, 45, 46, 47, 48, 49, 50, 51, 52] (by decide) rfl
        refine lv_aload_n hx hb dX10_years_27 rfl (lv_at hl 0 rfl) ?_
        refine q_get (v := .ref (a 35)) C inX10_years_X10 hK hP 0 rfl rfl 6 (by decide) rfl LX10_years_54 rfl dX10_years_28 ?_
        refine lv_aload_n hx hb dX10_years_31 rfl (lv_at hl 0 rfl) ?_
        refine q_get (v := .ref (b 0)) C inX10_years_X10 hK hP 0 rfl rfl 3 (by decide) rfl LX10_years_35 rfl dX10_years_32 ?_
        refine lv_iload_n hx hb dX10_years_35 rfl (lv_at hl 1 rfl) ?_
        obtain ⟨s7, hc, hB⟩ := bindP_inv hB
        refine q_govT (wr := ((wG cZ cS a b b2 c0 (rgP bb) (slP bb) s5.x.g) ++ (wD cI b2 s5.x.t))) (va_runVN (As := [.ref (b 0), .int x1]) (rest := []) C (ckX0_passYears hc _) ⟨va_cnB 2 hts gX10_years_X0_passYears_n185 rfl rfl rfl (hN _ nwM_X10_185 rfl) (hts _ LX10_years_I_X0) (by decide +kernel) ⟨Nat.le_of_ble_eq_true rfl, Nat.le_of_ble_eq_true rfl⟩, hts _ LX10_years_N_X0_passYears, hts _ LX10_years_E_X0_passYears⟩ (q_preV hK hP (ci := 0) (q0 := 52) rfl rfl rfl (q_pre hN hK hP hD [11, 12, 13, 14, 15, 16, 17, 18, 19, 20, 21, 22, 23, 24, 25, 26, 27, 28, 29, 30, 31, 32, 33, 34, 35, 36, 37, 38, 39, 40, 41, 42, 43, 44, 45, 46, 47, 48, 49, 50, 51, 52, 53, 54, 55, 56, 57, 58, 59, 60, 61, 62, 63] rfl (by decide))) rfl rfl hl.1 rfl (lv_room (Nat.le_of_ble_eq_true rfl)) dX10_years_36 ⟨Nat.le_of_ble_eq_true rfl, Nat.le_of_ble_eq_true rfl⟩) hP hD hS hA [11, 12, 13, 14, 15, 16, 17, 18, 19, 20, 21, 22, 23, 24, 25, 26, 27, 28, 29, 30, 31, 32, 33, 34, 35, 36, 37, 38, 39, 40, 41, 42, 43, 44, 45, 46, 47, 48, 49, 50, 51, 52, 53, 54, 55, 56, 57, 58, 59, 60, 61, 62, 63] [0, 1, 2, 3, 4, 5, 6, 7, 8, 9, 10] rfl rfl (by decide) (by decide) (fun w1 H locs hw hP hD hS => ?_)
        subst hw
        obtain ⟨s8, hs9, hB⟩ := letS_inv hB
        have hP : va_P (dC, dI) vwCl (wY cB cI cJ cZ cS a b b2 c0 bb s8) H := by subst hs9; exact hP
        have hD : va_D A (wY cB cI cJ cZ cS a b b2 c0 bb s8) := by subst hs9; exact hD
        refine lv_aload_n hx hb dX10_years_39 rfl (lv_at hl 0 rfl) ?_
        refine q_get (v := .ref (b 0)) C inX10_years_X10 hK hP 0 rfl rfl 3 (by decide) rfl LX10_years_35 rfl dX10_years_40 ?_
        refine q_getN (v := .int (s8.x.n.v 5)) C hN inX10_years_X6 hK hP 11 rfl rfl 5 (by decide) rfl nwF_X10_189 rfl dX10_years_43 ?_
        exact q_iret C hr hlocks hK hP hD hS (Nat.le_of_ble_eq_true rfl) (Nat.le_of_ble_eq_true rfl) dX10_years_46 (by cases hB; exact ⟨rfl, rfl⟩)
    · have hB := if_n hB c2
      refine lv_iconst (v := (-1)) hx hb dX10_years_10 (by decide) ?_
      exact q_iret C hr hlocks hK hP hD hS (Nat.le_of_ble_eq_true rfl) (Nat.le_of_ble_eq_true rfl) dX10_years_11 (by cases hB; exact ⟨rfl, rfl⟩)
theorem ckX10_years {l : Launch} {dC : Nat → ClassId} {dI : Nat → Nat → Nat} {cB cI cJ cZ cS : ClassId} {a b b2 c0 : Nat → Nat} {bb : Nat → Nat → Nat} {r : Int32} {s' : YS} {s : YS} {x1 : Int32} (hB : kX10_years s x1 = some (r, s')) : CI l yX10_years wsX10_years ({ frames := 6, cells := 0, slots := 0, locals := 145 }) (dC, dI) (tysA cB cI cJ cZ cS) (wY cB cI cJ cZ cS a b b2 c0 bb s) [.ref (c0 0), .int x1] (fun x u => x = r ∧ u = (wY cB cI cJ cZ cS a b b2 c0 bb s')) :=
  CI_of (cc := cX10_years) (maxL := 2) (ret := (some .int)) (by decide) rfl (Nat.le_of_ble_eq_true rfl) (bkX10_years _ _ hB)
end
section
theorem ggX4_readTape_X5_clear : GoodIn wsX4_readTape wsX5_clear := gi_sub (fun w h => List.mem_cons_of_mem _ (List.mem_append_left _ (List.mem_append_left _ (List.mem_append_left _ (List.mem_append_left _ (List.mem_append_left _ (List.mem_append_right _ (List.mem_append_left _ h)))))))) gd_wsX5_clear
set_option maxRecDepth 20000 in
theorem gX4_readTape_X5_clear_n35 : GoodIn wsX4_readTape (wsX5_clear) := ggX4_readTape_X5_clear
theorem ggX4_readTape_X9_split : GoodIn wsX4_readTape wsX9_split := gi_sub (fun w h => List.mem_cons_of_mem _ (List.mem_append_left _ (List.mem_append_left _ (List.mem_append_left _ (List.mem_append_left _ (List.mem_append_left _ (List.mem_append_right _ (List.mem_append_right _ (List.mem_append_left _ h))))))))) gd_wsX9_split
set_option maxRecDepth 20000 in
theorem gX4_readTape_X9_split_n50 : GoodIn wsX4_readTape (wsX9_split) := ggX4_readTape_X9_split
theorem ggX4_readTape_X4_isAt : GoodIn wsX4_readTape wsX4_isAt := gi_sub (fun w h => List.mem_cons_of_mem _ (List.mem_append_left _ (List.mem_append_left _ (List.mem_append_left _ (List.mem_append_left _ (List.mem_append_left _ (List.mem_append_right _ (List.mem_append_right _ (List.mem_append_right _ (List.mem_append_left _ h)))))))))) gd_wsX4_isAt
set_option maxRecDepth 20000 in
theorem gX4_readTape_X4_isAt : GoodIn wsX4_readTape (wsV RX4 53 RX4 yX4_isAt wsX4_isAt) := goodIn_app (goodIn_r _ [14, 15, 16, 17] (by decide +kernel) (by decide +kernel)) ggX4_readTape_X4_isAt
theorem ggX4_readTape_X4_readTell : GoodIn wsX4_readTape wsX4_readTell := gi_sub (fun w h => List.mem_cons_of_mem _ (List.mem_append_left _ (List.mem_append_left _ (List.mem_append_left _ (List.mem_append_left _ (List.mem_append_left _ (List.mem_append_right _ (List.mem_append_right _ (List.mem_append_right _ (List.mem_append_right _ (List.mem_append_left _ h))))))))))) gd_wsX4_readTell
set_option maxRecDepth 20000 in
theorem gX4_readTape_X4_readTell : GoodIn wsX4_readTape (wsV RX4 57 RX4 yX4_readTell wsX4_readTell) := goodIn_app (goodIn_r _ [18, 19, 20, 17] (by decide +kernel) (by decide +kernel)) ggX4_readTape_X4_readTell
theorem ggX4_readTape_X5_addUp : GoodIn wsX4_readTape wsX5_addUp := gi_sub (fun w h => List.mem_cons_of_mem _ (List.mem_append_left _ (List.mem_append_left _ (List.mem_append_left _ (List.mem_append_left _ (List.mem_append_left _ (List.mem_append_right _ (List.mem_append_right _ (List.mem_append_right _ (List.mem_append_right _ (List.mem_append_right _ h))))))))))) gd_wsX5_addUp
set_option maxRecDepth 20000 in
theorem gX4_readTape_X5_addUp_n60 : GoodIn wsX4_readTape (wsX5_addUp) := ggX4_readTape_X5_addUp
theorem dX4_readTape_0 : decode cX4_readTape 0 = .ok (.aload_n 0, 1) := dc1_42 (by decide +kernel)
theorem dX4_readTape_1 : decode cX4_readTape 1 = .ok (.getfield 12, 3) := dcw_180 (by decide +kernel)
theorem dX4_readTape_4 : decode cX4_readTape 4 = .ok (.invokevirtual 35, 3) := dcw_182 (by decide +kernel)
theorem dX4_readTape_7 : decode cX4_readTape 7 = .ok (.aload_n 0, 1) := dc1_42 (by decide +kernel)
theorem dX4_readTape_8 : decode cX4_readTape 8 = .ok (.iconst 0, 1) := dc1_3 (by decide +kernel)
theorem dX4_readTape_9 : decode cX4_readTape 9 = .ok (.putfield 38, 3) := dcw_181 (by decide +kernel)
theorem dX4_readTape_12 : decode cX4_readTape 12 = .ok (.aload_n 0, 1) := dc1_42 (by decide +kernel)
theorem dX4_readTape_13 : decode cX4_readTape 13 = .ok (.iconst 0, 1) := dc1_3 (by decide +kernel)
theorem dX4_readTape_14 : decode cX4_readTape 14 = .ok (.putfield 41, 3) := dcw_181 (by decide +kernel)
theorem dX4_readTape_17 : decode cX4_readTape 17 = .ok (.aload_n 0, 1) := dc1_42 (by decide +kernel)
theorem dX4_readTape_18 : decode cX4_readTape 18 = .ok (.iconst (-1), 1) := dc1_2 (by decide +kernel)
theorem dX4_readTape_19 : decode cX4_readTape 19 = .ok (.putfield 22, 3) := dcw_181 (by decide +kernel)
theorem dX4_readTape_22 : decode cX4_readTape 22 = .ok (.aload_n 0, 1) := dc1_42 (by decide +kernel)
theorem dX4_readTape_23 : decode cX4_readTape 23 = .ok (.iconst 0, 1) := dc1_3 (by decide +kernel)
theorem dX4_readTape_24 : decode cX4_readTape 24 = .ok (.putfield 44, 3) := dcw_181 (by decide +kernel)
theorem dX4_readTape_27 : decode cX4_readTape 27 = .ok (.aload_n 0, 1) := dc1_42 (by decide +kernel)
theorem dX4_readTape_28 : decode cX4_readTape 28 = .ok (.iconst (-1), 1) := dc1_2 (by decide +kernel)
theorem dX4_readTape_29 : decode cX4_readTape 29 = .ok (.putfield 47, 3) := dcw_181 (by decide +kernel)
theorem dX4_readTape_32 : decode cX4_readTape 32 = .ok (.aload_n 0, 1) := dc1_42 (by decide +kernel)
theorem dX4_readTape_33 : decode cX4_readTape 33 = .ok (.getfield 31, 3) := dcw_180 (by decide +kernel)
theorem dX4_readTape_36 : decode cX4_readTape 36 = .ok (.invokevirtual 50, 3) := dcw_182 (by decide +kernel)
theorem dX4_readTape_39 : decode cX4_readTape 39 = .ok (.iconst 0, 1) := dc1_3 (by decide +kernel)
theorem dX4_readTape_40 : decode cX4_readTape 40 = .ok (.istore_n 1, 1) := dc1_60 (by decide +kernel)
theorem dX4_readTape_41 : decode cX4_readTape 41 = .ok (.iload_n 1, 1) := dc1_27 (by decide +kernel)
theorem dX4_readTape_42 : decode cX4_readTape 42 = .ok (.sipush 400, 3) := dcs_17 (n := 400) (by decide +kernel)
theorem dX4_readTape_45 : decode cX4_readTape 45 = .ok (.if_icmp .gt 30, 3) := dcs_163 (n := 30) (by decide +kernel)
theorem dX4_readTape_48 : decode cX4_readTape 48 = .ok (.aload_n 0, 1) := dc1_42 (by decide +kernel)
theorem dX4_readTape_49 : decode cX4_readTape 49 = .ok (.getfield 41, 3) := dcw_180 (by decide +kernel)
theorem dX4_readTape_52 : decode cX4_readTape 52 = .ok (.ifCond .ne 23, 3) := dcs_154 (n := 23) (by decide +kernel)
theorem dX4_readTape_55 : decode cX4_readTape 55 = .ok (.aload_n 0, 1) := dc1_42 (by decide +kernel)
theorem dX4_readTape_56 : decode cX4_readTape 56 = .ok (.sipush 302, 3) := dcs_17 (n := 302) (by decide +kernel)
theorem dX4_readTape_59 : decode cX4_readTape 59 = .ok (.invokevirtual 53, 3) := dcw_182 (by decide +kernel)
theorem dX4_readTape_62 : decode cX4_readTape 62 = .ok (.ifCond .ne 13, 3) := dcs_154 (n := 13) (by decide +kernel)
theorem dX4_readTape_65 : decode cX4_readTape 65 = .ok (.aload_n 0, 1) := dc1_42 (by decide +kernel)
theorem dX4_readTape_66 : decode cX4_readTape 66 = .ok (.invokevirtual 57, 3) := dcw_182 (by decide +kernel)
theorem dX4_readTape_69 : decode cX4_readTape 69 = .ok (.iinc 1 1, 3) := dc_iinc (m := 1) (by decide +kernel)
theorem dX4_readTape_72 : decode cX4_readTape 72 = .ok (.goto (-31), 3) := dcs_167 (n := 65505) (by decide +kernel)
theorem dX4_readTape_75 : decode cX4_readTape 75 = .ok (.aload_n 0, 1) := dc1_42 (by decide +kernel)
theorem dX4_readTape_76 : decode cX4_readTape 76 = .ok (.getfield 41, 3) := dcw_180 (by decide +kernel)
theorem dX4_readTape_79 : decode cX4_readTape 79 = .ok (.ifCond .ne 19, 3) := dcs_154 (n := 19) (by decide +kernel)
theorem dX4_readTape_82 : decode cX4_readTape 82 = .ok (.aload_n 0, 1) := dc1_42 (by decide +kernel)
theorem dX4_readTape_83 : decode cX4_readTape 83 = .ok (.aload_n 0, 1) := dc1_42 (by decide +kernel)
theorem dX4_readTape_84 : decode cX4_readTape 84 = .ok (.getfield 44, 3) := dcw_180 (by decide +kernel)
theorem dX4_readTape_87 : decode cX4_readTape 87 = .ok (.putfield 41, 3) := dcw_181 (by decide +kernel)
theorem dX4_readTape_90 : decode cX4_readTape 90 = .ok (.aload_n 0, 1) := dc1_42 (by decide +kernel)
theorem dX4_readTape_91 : decode cX4_readTape 91 = .ok (.aload_n 0, 1) := dc1_42 (by decide +kernel)
theorem dX4_readTape_92 : decode cX4_readTape 92 = .ok (.getfield 47, 3) := dcw_180 (by decide +kernel)
theorem dX4_readTape_95 : decode cX4_readTape 95 = .ok (.putfield 22, 3) := dcw_181 (by decide +kernel)
theorem dX4_readTape_98 : decode cX4_readTape 98 = .ok (.aload_n 0, 1) := dc1_42 (by decide +kernel)
theorem dX4_readTape_99 : decode cX4_readTape 99 = .ok (.getfield 41, 3) := dcw_180 (by decide +kernel)
theorem dX4_readTape_102 : decode cX4_readTape 102 = .ok (.ifCond .ne 10, 3) := dcs_154 (n := 10) (by decide +kernel)
theorem dX4_readTape_105 : decode cX4_readTape 105 = .ok (.aload_n 0, 1) := dc1_42 (by decide +kernel)
theorem dX4_readTape_106 : decode cX4_readTape 106 = .ok (.getfield 12, 3) := dcw_180 (by decide +kernel)
theorem dX4_readTape_109 : decode cX4_readTape 109 = .ok (.invokevirtual 60, 3) := dcw_182 (by decide +kernel)
theorem dX4_readTape_112 : decode cX4_readTape 112 = .ok (.aload_n 0, 1) := dc1_42 (by decide +kernel)
theorem dX4_readTape_113 : decode cX4_readTape 113 = .ok (.getfield 41, 3) := dcw_180 (by decide +kernel)
theorem dX4_readTape_116 : decode cX4_readTape 116 = .ok (.ireturn, 1) := dc1_172 (by decide +kernel)
theorem ggX4_readTell_X4_readWave : GoodIn wsX4_readTell wsX4_readWave := gi_sub (fun w h => List.mem_cons_of_mem _ (List.mem_append_left _ (List.mem_append_left _ (List.mem_append_left _ (List.mem_append_left _ (List.mem_append_right _ (List.mem_append_left _ h))))))) gd_wsX4_readWave
set_option maxRecDepth 20000 in
theorem gX4_readTell_X4_readWave : GoodIn wsX4_readTell (wsV RX4 84 RX4 yX4_readWave wsX4_readWave) := goodIn_app (goodIn_r _ [4, 5, 6, 7] (by decide +kernel) (by decide +kernel)) ggX4_readTell_X4_readWave
theorem ggX4_readTell_X4_readParty : GoodIn wsX4_readTell wsX4_readParty := gi_sub (fun w h => List.mem_cons_of_mem _ (List.mem_append_left _ (List.mem_append_left _ (List.mem_append_left _ (List.mem_append_left _ (List.mem_append_right _ (List.mem_append_right _ (List.mem_append_left _ h)))))))) gd_wsX4_readParty
set_option maxRecDepth 20000 in
theorem gX4_readTell_X4_readParty : GoodIn wsX4_readTell (wsV RX4 87 RX4 yX4_readParty wsX4_readParty) := goodIn_app (goodIn_r _ [17, 18, 19, 7] (by decide +kernel) (by decide +kernel)) ggX4_readTell_X4_readParty
theorem ggX4_readTell_X4_take : GoodIn wsX4_readTell wsX4_take := gi_sub (fun w h => List.mem_cons_of_mem _ (List.mem_append_left _ (List.mem_append_left _ (List.mem_append_left _ (List.mem_append_left _ (List.mem_append_right _ (List.mem_append_right _ (List.mem_append_right _ (List.mem_append_left _ h))))))))) gd_wsX4_take
set_option maxRecDepth 20000 in
theorem gX4_readTell_X4_take : GoodIn wsX4_readTell (wsV RX4 81 RX4 yX4_take wsX4_take) := goodIn_app (goodIn_r _ [11, 12, 13, 7] (by decide +kernel) (by decide +kernel)) ggX4_readTell_X4_take
theorem ggX4_readTell_X4_takeInt : GoodIn wsX4_readTell wsX4_takeInt := gi_sub (fun w h => List.mem_cons_of_mem _ (List.mem_append_left _ (List.mem_append_left _ (List.mem_append_left _ (List.mem_append_left _ (List.mem_append_right _ (List.mem_append_right _ (List.mem_append_right _ (List.mem_append_right _ (List.mem_append_left _ h)))))))))) gd_wsX4_takeInt
set_option maxRecDepth 20000 in
theorem gX4_readTell_X4_takeInt : GoodIn wsX4_readTell (wsV RX4 90 RX4 yX4_takeInt wsX4_takeInt) := goodIn_app (goodIn_r _ [14, 15, 16, 7] (by decide +kernel) (by decide +kernel)) ggX4_readTell_X4_takeInt
theorem ggX4_readTell_X4_readLaw : GoodIn wsX4_readTell wsX4_readLaw := gi_sub (fun w h => List.mem_cons_of_mem _ (List.mem_append_left _ (List.mem_append_left _ (List.mem_append_left _ (List.mem_append_left _ (List.mem_append_right _ (List.mem_append_right _ (List.mem_append_right _ (List.mem_append_right _ (List.mem_append_right _ (List.mem_append_left _ h))))))))))) gd_wsX4_readLaw
set_option maxRecDepth 20000 in
theorem gX4_readTell_X4_readLaw : GoodIn wsX4_readTell (wsV RX4 97 RX4 yX4_readLaw wsX4_readLaw) := goodIn_app (goodIn_r _ [20, 21, 22, 7] (by decide +kernel) (by decide +kernel)) ggX4_readTell_X4_readLaw
theorem ggX4_readTell_X4_fail : GoodIn wsX4_readTell wsX4_fail := gi_sub (fun w h => List.mem_cons_of_mem _ (List.mem_append_left _ (List.mem_append_left _ (List.mem_append_left _ (List.mem_append_left _ (List.mem_append_right _ (List.mem_append_right _ (List.mem_append_right _ (List.mem_append_right _ (List.mem_append_right _ (List.mem_append_right _ h))))))))))) gd_wsX4_fail
set_option maxRecDepth 20000 in
theorem gX4_readTell_X4_fail : GoodIn wsX4_readTell (wsV RX4 70 RX4 yX4_fail wsX4_fail) := goodIn_app (goodIn_r _ [8, 9, 10, 7] (by decide +kernel) (by decide +kernel)) ggX4_readTell_X4_fail
theorem dX4_readTell_0 : decode cX4_readTell 0 = .ok (.aload_n 0, 1) := dc1_42 (by decide +kernel)
theorem dX4_readTell_1 : decode cX4_readTell 1 = .ok (.getfield 31, 3) := dcw_180 (by decide +kernel)
theorem dX4_readTell_4 : decode cX4_readTell 4 = .ok (.getfield 63, 3) := dcw_180 (by decide +kernel)
theorem dX4_readTell_7 : decode cX4_readTell 7 = .ok (.aload_n 0, 1) := dc1_42 (by decide +kernel)
theorem dX4_readTell_8 : decode cX4_readTell 8 = .ok (.getfield 38, 3) := dcw_180 (by decide +kernel)
theorem dX4_readTell_11 : decode cX4_readTell 11 = .ok (.iaload, 1) := dc1_46 (by decide +kernel)
theorem dX4_readTell_12 : decode cX4_readTell 12 = .ok (.istore_n 1, 1) := dc1_60 (by decide +kernel)
theorem dX4_readTell_13 : decode cX4_readTell 13 = .ok (.iload_n 1, 1) := dc1_27 (by decide +kernel)
theorem dX4_readTell_14 : decode cX4_readTell 14 = .ok (.sipush 258, 3) := dcs_17 (n := 258) (by decide +kernel)
theorem dX4_readTell_17 : decode cX4_readTell 17 = .ok (.isub, 1) := dc1_100 (by decide +kernel)
theorem dX4_readTell_18 : decode cX4_readTell 18 = .ok (.istore_n 2, 1) := dc1_61 (by decide +kernel)
theorem dX4_readTell_19 : decode cX4_readTell 19 = .ok (.iload_n 1, 1) := dc1_27 (by decide +kernel)
theorem dX4_readTell_20 : decode cX4_readTell 20 = .ok (.sipush 256, 3) := dcs_17 (n := 256) (by decide +kernel)
theorem dX4_readTell_23 : decode cX4_readTell 23 = .ok (.if_icmp .ne 10, 3) := dcs_160 (n := 10) (by decide +kernel)
theorem dX4_readTell_26 : decode cX4_readTell 26 = .ok (.aload_n 0, 1) := dc1_42 (by decide +kernel)
theorem dX4_readTell_27 : decode cX4_readTell 27 = .ok (.invokevirtual 84, 3) := dcw_182 (by decide +kernel)
theorem dX4_readTell_30 : decode cX4_readTell 30 = .ok (.goto 81, 3) := dcs_167 (n := 81) (by decide +kernel)
theorem dX4_readTell_33 : decode cX4_readTell 33 = .ok (.iload_n 1, 1) := dc1_27 (by decide +kernel)
theorem dX4_readTell_34 : decode cX4_readTell 34 = .ok (.sipush 257, 3) := dcs_17 (n := 257) (by decide +kernel)
theorem dX4_readTell_37 : decode cX4_readTell 37 = .ok (.if_icmp .ne 10, 3) := dcs_160 (n := 10) (by decide +kernel)
theorem dX4_readTell_40 : decode cX4_readTell 40 = .ok (.aload_n 0, 1) := dc1_42 (by decide +kernel)
theorem dX4_readTell_41 : decode cX4_readTell 41 = .ok (.invokevirtual 87, 3) := dcw_182 (by decide +kernel)
theorem dX4_readTell_44 : decode cX4_readTell 44 = .ok (.goto 67, 3) := dcs_167 (n := 67) (by decide +kernel)
theorem dX4_readTell_47 : decode cX4_readTell 47 = .ok (.iload_n 1, 1) := dc1_27 (by decide +kernel)
theorem dX4_readTell_48 : decode cX4_readTell 48 = .ok (.sipush 262, 3) := dcs_17 (n := 262) (by decide +kernel)
theorem dX4_readTell_51 : decode cX4_readTell 51 = .ok (.if_icmp .ne 33, 3) := dcs_160 (n := 33) (by decide +kernel)
theorem dX4_readTell_54 : decode cX4_readTell 54 = .ok (.aload_n 0, 1) := dc1_42 (by decide +kernel)
theorem dX4_readTell_55 : decode cX4_readTell 55 = .ok (.sipush 262, 3) := dcs_17 (n := 262) (by decide +kernel)
theorem dX4_readTell_58 : decode cX4_readTell 58 = .ok (.invokevirtual 81, 3) := dcw_182 (by decide +kernel)
theorem dX4_readTell_61 : decode cX4_readTell 61 = .ok (.aload_n 0, 1) := dc1_42 (by decide +kernel)
theorem dX4_readTell_62 : decode cX4_readTell 62 = .ok (.getfield 12, 3) := dcw_180 (by decide +kernel)
theorem dX4_readTell_65 : decode cX4_readTell 65 = .ok (.aload_n 0, 1) := dc1_42 (by decide +kernel)
theorem dX4_readTell_66 : decode cX4_readTell 66 = .ok (.sipush 9999, 3) := dcs_17 (n := 9999) (by decide +kernel)
theorem dX4_readTell_69 : decode cX4_readTell 69 = .ok (.invokevirtual 90, 3) := dcw_182 (by decide +kernel)
theorem dX4_readTell_72 : decode cX4_readTell 72 = .ok (.putfield 94, 3) := dcw_181 (by decide +kernel)
theorem dX4_readTell_75 : decode cX4_readTell 75 = .ok (.aload_n 0, 1) := dc1_42 (by decide +kernel)
theorem dX4_readTell_76 : decode cX4_readTell 76 = .ok (.bipush 59, 2) := dcb_16 (n := 59) (by decide +kernel)
theorem dX4_readTell_78 : decode cX4_readTell 78 = .ok (.invokevirtual 81, 3) := dcw_182 (by decide +kernel)
theorem dX4_readTell_81 : decode cX4_readTell 81 = .ok (.goto 30, 3) := dcs_167 (n := 30) (by decide +kernel)
theorem dX4_readTell_84 : decode cX4_readTell 84 = .ok (.iload_n 2, 1) := dc1_28 (by decide +kernel)
theorem dX4_readTell_85 : decode cX4_readTell 85 = .ok (.ifCond .lt 21, 3) := dcs_155 (n := 21) (by decide +kernel)
theorem dX4_readTell_88 : decode cX4_readTell 88 = .ok (.iload_n 2, 1) := dc1_28 (by decide +kernel)
theorem dX4_readTell_89 : decode cX4_readTell 89 = .ok (.iconst 4, 1) := dc1_7 (by decide +kernel)
theorem dX4_readTell_90 : decode cX4_readTell 90 = .ok (.if_icmp .ge 16, 3) := dcs_162 (n := 16) (by decide +kernel)
theorem dX4_readTell_93 : decode cX4_readTell 93 = .ok (.aload_n 0, 1) := dc1_42 (by decide +kernel)
theorem dX4_readTell_94 : decode cX4_readTell 94 = .ok (.iload_n 1, 1) := dc1_27 (by decide +kernel)
theorem dX4_readTell_95 : decode cX4_readTell 95 = .ok (.invokevirtual 81, 3) := dcw_182 (by decide +kernel)
theorem dX4_readTell_98 : decode cX4_readTell 98 = .ok (.aload_n 0, 1) := dc1_42 (by decide +kernel)
theorem dX4_readTell_99 : decode cX4_readTell 99 = .ok (.iload_n 2, 1) := dc1_28 (by decide +kernel)
theorem dX4_readTell_100 : decode cX4_readTell 100 = .ok (.invokevirtual 97, 3) := dcw_182 (by decide +kernel)
theorem dX4_readTell_103 : decode cX4_readTell 103 = .ok (.goto 8, 3) := dcs_167 (n := 8) (by decide +kernel)
theorem dX4_readTell_106 : decode cX4_readTell 106 = .ok (.aload_n 0, 1) := dc1_42 (by decide +kernel)
theorem dX4_readTell_107 : decode cX4_readTell 107 = .ok (.iconst 1, 1) := dc1_4 (by decide +kernel)
theorem dX4_readTell_108 : decode cX4_readTell 108 = .ok (.invokevirtual 70, 3) := dcw_182 (by decide +kernel)
theorem dX4_readTell_111 : decode cX4_readTell 111 = .ok (.return_, 1) := dc1_177 (by decide +kernel)
theorem ggX4_readLaw_X4_take : GoodIn wsX4_readLaw wsX4_take := gi_sub (fun w h => List.mem_cons_of_mem _ (List.mem_append_left _ (List.mem_append_left _ (List.mem_append_left _ (List.mem_append_left _ (List.mem_append_right _ (List.mem_append_left _ h))))))) gd_wsX4_take
set_option maxRecDepth 20000 in
theorem gX4_readLaw_X4_take : GoodIn wsX4_readLaw (wsV RX4 81 RX4 yX4_take wsX4_take) := goodIn_app (goodIn_r _ [2, 3, 4, 5] (by decide +kernel) (by decide +kernel)) ggX4_readLaw_X4_take
theorem ggX4_readLaw_X1_begin : GoodIn wsX4_readLaw wsX1_begin := gi_sub (fun w h => List.mem_cons_of_mem _ (List.mem_append_left _ (List.mem_append_left _ (List.mem_append_left _ (List.mem_append_left _ (List.mem_append_right _ (List.mem_append_right _ (List.mem_append_left _ h)))))))) gd_wsX1_begin
set_option maxRecDepth 20000 in
theorem gX4_readLaw_X1_begin_n123 : GoodIn wsX4_readLaw (wsX1_begin) := ggX4_readLaw_X1_begin
theorem ggX4_readLaw_X4_isAt : GoodIn wsX4_readLaw wsX4_isAt := gi_sub (fun w h => List.mem_cons_of_mem _ (List.mem_append_left _ (List.mem_append_left _ (List.mem_append_left _ (List.mem_append_left _ (List.mem_append_right _ (List.mem_append_right _ (List.mem_append_right _ (List.mem_append_left _ h))))))))) gd_wsX4_isAt
set_option maxRecDepth 20000 in
theorem gX4_readLaw_X4_isAt : GoodIn wsX4_readLaw (wsV RX4 53 RX4 yX4_isAt wsX4_isAt) := goodIn_app (goodIn_r _ [6, 7, 8, 5] (by decide +kernel) (by decide +kernel)) ggX4_readLaw_X4_isAt
theorem ggX4_readLaw_X4_fail : GoodIn wsX4_readLaw wsX4_fail := gi_sub (fun w h => List.mem_cons_of_mem _ (List.mem_append_left _ (List.mem_append_left _ (List.mem_append_left _ (List.mem_append_left _ (List.mem_append_right _ (List.mem_append_right _ (List.mem_append_right _ (List.mem_append_right _ (List.mem_append_left _ h)))))))))) gd_wsX4_fail
set_option maxRecDepth 20000 in
theorem gX4_readLaw_X4_fail : GoodIn wsX4_readLaw (wsV RX4 70 RX4 yX4_fail wsX4_fail) := goodIn_app (goodIn_r _ [9, 10, 11, 5] (by decide +kernel) (by decide +kernel)) ggX4_readLaw_X4_fail
theorem ggX4_readLaw_X4_readPart : GoodIn wsX4_readLaw wsX4_readPart := gi_sub (fun w h => List.mem_cons_of_mem _ (List.mem_append_left _ (List.mem_append_left _ (List.mem_append_left _ (List.mem_append_left _ (List.mem_append_right _ (List.mem_append_right _ (List.mem_append_right _ (List.mem_append_right _ (List.mem_append_right _ h)))))))))) gd_wsX4_readPart
set_option maxRecDepth 20000 in
theorem gX4_readLaw_X4_readPart : GoodIn wsX4_readLaw (wsV RX4 128 RX4 yX4_readPart wsX4_readPart) := goodIn_app (goodIn_r _ [15, 16, 17, 5] (by decide +kernel) (by decide +kernel)) ggX4_readLaw_X4_readPart
theorem dX4_readLaw_0 : decode cX4_readLaw 0 = .ok (.aload_n 0, 1) := dc1_42 (by decide +kernel)
theorem dX4_readLaw_1 : decode cX4_readLaw 1 = .ok (.bipush 61, 2) := dcb_16 (n := 61) (by decide +kernel)
theorem dX4_readLaw_3 : decode cX4_readLaw 3 = .ok (.invokevirtual 81, 3) := dcw_182 (by decide +kernel)
theorem dX4_readLaw_6 : decode cX4_readLaw 6 = .ok (.aload_n 0, 1) := dc1_42 (by decide +kernel)
theorem dX4_readLaw_7 : decode cX4_readLaw 7 = .ok (.getfield 12, 3) := dcw_180 (by decide +kernel)
theorem dX4_readLaw_10 : decode cX4_readLaw 10 = .ok (.getfield 119, 3) := dcw_180 (by decide +kernel)
theorem dX4_readLaw_13 : decode cX4_readLaw 13 = .ok (.iload_n 1, 1) := dc1_27 (by decide +kernel)
theorem dX4_readLaw_14 : decode cX4_readLaw 14 = .ok (.invokevirtual 123, 3) := dcw_182 (by decide +kernel)
theorem dX4_readLaw_17 : decode cX4_readLaw 17 = .ok (.iconst 0, 1) := dc1_3 (by decide +kernel)
theorem dX4_readLaw_18 : decode cX4_readLaw 18 = .ok (.istore_n 2, 1) := dc1_61 (by decide +kernel)
theorem dX4_readLaw_19 : decode cX4_readLaw 19 = .ok (.iload_n 2, 1) := dc1_28 (by decide +kernel)
theorem dX4_readLaw_20 : decode cX4_readLaw 20 = .ok (.iconst 4, 1) := dc1_7 (by decide +kernel)
theorem dX4_readLaw_21 : decode cX4_readLaw 21 = .ok (.if_icmp .gt 56, 3) := dcs_163 (n := 56) (by decide +kernel)
theorem dX4_readLaw_24 : decode cX4_readLaw 24 = .ok (.aload_n 0, 1) := dc1_42 (by decide +kernel)
theorem dX4_readLaw_25 : decode cX4_readLaw 25 = .ok (.sipush 263, 3) := dcs_17 (n := 263) (by decide +kernel)
theorem dX4_readLaw_28 : decode cX4_readLaw 28 = .ok (.invokevirtual 53, 3) := dcw_182 (by decide +kernel)
theorem dX4_readLaw_31 : decode cX4_readLaw 31 = .ok (.ifCond .eq 46, 3) := dcs_153 (n := 46) (by decide +kernel)
theorem dX4_readLaw_34 : decode cX4_readLaw 34 = .ok (.iload_n 2, 1) := dc1_28 (by decide +kernel)
theorem dX4_readLaw_35 : decode cX4_readLaw 35 = .ok (.iconst 4, 1) := dc1_7 (by decide +kernel)
theorem dX4_readLaw_36 : decode cX4_readLaw 36 = .ok (.if_icmp .ne 8, 3) := dcs_160 (n := 8) (by decide +kernel)
theorem dX4_readLaw_39 : decode cX4_readLaw 39 = .ok (.aload_n 0, 1) := dc1_42 (by decide +kernel)
theorem dX4_readLaw_40 : decode cX4_readLaw 40 = .ok (.iconst 2, 1) := dc1_5 (by decide +kernel)
theorem dX4_readLaw_41 : decode cX4_readLaw 41 = .ok (.invokevirtual 70, 3) := dcw_182 (by decide +kernel)
theorem dX4_readLaw_44 : decode cX4_readLaw 44 = .ok (.aload_n 0, 1) := dc1_42 (by decide +kernel)
theorem dX4_readLaw_45 : decode cX4_readLaw 45 = .ok (.sipush 263, 3) := dcs_17 (n := 263) (by decide +kernel)
theorem dX4_readLaw_48 : decode cX4_readLaw 48 = .ok (.invokevirtual 81, 3) := dcw_182 (by decide +kernel)
theorem dX4_readLaw_51 : decode cX4_readLaw 51 = .ok (.aload_n 0, 1) := dc1_42 (by decide +kernel)
theorem dX4_readLaw_52 : decode cX4_readLaw 52 = .ok (.bipush 60, 2) := dcb_16 (n := 60) (by decide +kernel)
theorem dX4_readLaw_54 : decode cX4_readLaw 54 = .ok (.invokevirtual 128, 3) := dcw_182 (by decide +kernel)
theorem dX4_readLaw_57 : decode cX4_readLaw 57 = .ok (.aload_n 0, 1) := dc1_42 (by decide +kernel)
theorem dX4_readLaw_58 : decode cX4_readLaw 58 = .ok (.sipush 264, 3) := dcs_17 (n := 264) (by decide +kernel)
theorem dX4_readLaw_61 : decode cX4_readLaw 61 = .ok (.invokevirtual 128, 3) := dcw_182 (by decide +kernel)
theorem dX4_readLaw_64 : decode cX4_readLaw 64 = .ok (.aload_n 0, 1) := dc1_42 (by decide +kernel)
theorem dX4_readLaw_65 : decode cX4_readLaw 65 = .ok (.sipush 265, 3) := dcs_17 (n := 265) (by decide +kernel)
theorem dX4_readLaw_68 : decode cX4_readLaw 68 = .ok (.invokevirtual 128, 3) := dcw_182 (by decide +kernel)
theorem dX4_readLaw_71 : decode cX4_readLaw 71 = .ok (.iinc 2 1, 3) := dc_iinc (m := 1) (by decide +kernel)
theorem dX4_readLaw_74 : decode cX4_readLaw 74 = .ok (.goto (-55), 3) := dcs_167 (n := 65481) (by decide +kernel)
theorem dX4_readLaw_77 : decode cX4_readLaw 77 = .ok (.aload_n 0, 1) := dc1_42 (by decide +kernel)
theorem dX4_readLaw_78 : decode cX4_readLaw 78 = .ok (.bipush 59, 2) := dcb_16 (n := 59) (by decide +kernel)
theorem dX4_readLaw_80 : decode cX4_readLaw 80 = .ok (.invokevirtual 128, 3) := dcw_182 (by decide +kernel)
theorem dX4_readLaw_83 : decode cX4_readLaw 83 = .ok (.return_, 1) := dc1_177 (by decide +kernel)
theorem ggX10_read_X4_readTape : GoodIn wsX10_read wsX4_readTape := gi_sub (fun w h => List.mem_cons_of_mem _ (List.mem_append_left _ (List.mem_append_left _ (List.mem_append_left _ (List.mem_append_left _ (List.mem_append_left _ (List.mem_append_left _ (List.mem_append_left _ (List.mem_append_left _ (List.mem_append_left _ (List.mem_append_right _ (List.mem_append_left _ h)))))))))))) gd_wsX4_readTape
set_option maxRecDepth 20000 in
theorem gX10_read_X4_readTape_n89 : GoodIn wsX10_read (wsX4_readTape) := ggX10_read_X4_readTape
theorem ggX10_read_X5_copyFrom : GoodIn wsX10_read wsX5_copyFrom := gi_sub (fun w h => List.mem_cons_of_mem _ (List.mem_append_left _ (List.mem_append_left _ (List.mem_append_left _ (List.mem_append_left _ (List.mem_append_left _ (List.mem_append_left _ (List.mem_append_left _ (List.mem_append_left _ (List.mem_append_left _ (List.mem_append_right _ (List.mem_append_right _ (List.mem_append_left _ h))))))))))))) gd_wsX5_copyFrom
set_option maxRecDepth 20000 in
theorem gX10_read_X5_copyFrom_n96 : GoodIn wsX10_read (wsX5_copyFrom) := ggX10_read_X5_copyFrom
theorem ggX10_read_X6_startOver : GoodIn wsX10_read wsX6_startOver := gi_sub (fun w h => List.mem_cons_of_mem _ (List.mem_append_left _ (List.mem_append_left _ (List.mem_append_left _ (List.mem_append_left _ (List.mem_append_left _ (List.mem_append_left _ (List.mem_append_left _ (List.mem_append_left _ (List.mem_append_left _ (List.mem_append_right _ (List.mem_append_right _ (List.mem_append_right _ (List.mem_append_left _ h)))))))))))))) gd_wsX6_startOver
set_option maxRecDepth 20000 in
theorem gX10_read_X6_startOver_n74 : GoodIn wsX10_read (wsX6_startOver) := ggX10_read_X6_startOver
theorem ggX10_read_X3_forgetAll : GoodIn wsX10_read wsX3_forgetAll := gi_sub (fun w h => List.mem_cons_of_mem _ (List.mem_append_left _ (List.mem_append_left _ (List.mem_append_left _ (List.mem_append_left _ (List.mem_append_left _ (List.mem_append_left _ (List.mem_append_left _ (List.mem_append_left _ (List.mem_append_left _ (List.mem_append_right _ (List.mem_append_right _ (List.mem_append_right _ (List.mem_append_right _ h)))))))))))))) gd_wsX3_forgetAll
set_option maxRecDepth 20000 in
theorem gX10_read_X3_forgetAll_n99 : GoodIn wsX10_read (wsX3_forgetAll) := ggX10_read_X3_forgetAll
theorem dX10_read_0 : decode cX10_read 0 = .ok (.aload_n 0, 1) := dc1_42 (by decide +kernel)
theorem dX10_read_1 : decode cX10_read 1 = .ok (.getfield 28, 3) := dcw_180 (by decide +kernel)
theorem dX10_read_4 : decode cX10_read 4 = .ok (.invokevirtual 89, 3) := dcw_182 (by decide +kernel)
theorem dX10_read_7 : decode cX10_read 7 = .ok (.istore_n 1, 1) := dc1_60 (by decide +kernel)
theorem dX10_read_8 : decode cX10_read 8 = .ok (.aload_n 0, 1) := dc1_42 (by decide +kernel)
theorem dX10_read_9 : decode cX10_read 9 = .ok (.getfield 10, 3) := dcw_180 (by decide +kernel)
theorem dX10_read_12 : decode cX10_read 12 = .ok (.iconst 0, 1) := dc1_3 (by decide +kernel)
theorem dX10_read_13 : decode cX10_read 13 = .ok (.putfield 85, 3) := dcw_181 (by decide +kernel)
theorem dX10_read_16 : decode cX10_read 16 = .ok (.iload_n 1, 1) := dc1_27 (by decide +kernel)
theorem dX10_read_17 : decode cX10_read 17 = .ok (.ifCond .ne 39, 3) := dcs_154 (n := 39) (by decide +kernel)
theorem dX10_read_20 : decode cX10_read 20 = .ok (.aload_n 0, 1) := dc1_42 (by decide +kernel)
theorem dX10_read_21 : decode cX10_read 21 = .ok (.getfield 19, 3) := dcw_180 (by decide +kernel)
theorem dX10_read_24 : decode cX10_read 24 = .ok (.aload_n 0, 1) := dc1_42 (by decide +kernel)
theorem dX10_read_25 : decode cX10_read 25 = .ok (.getfield 28, 3) := dcw_180 (by decide +kernel)
theorem dX10_read_28 : decode cX10_read 28 = .ok (.getfield 93, 3) := dcw_180 (by decide +kernel)
theorem dX10_read_31 : decode cX10_read 31 = .ok (.invokevirtual 96, 3) := dcw_182 (by decide +kernel)
theorem dX10_read_34 : decode cX10_read 34 = .ok (.aload_n 0, 1) := dc1_42 (by decide +kernel)
theorem dX10_read_35 : decode cX10_read 35 = .ok (.getfield 35, 3) := dcw_180 (by decide +kernel)
theorem dX10_read_38 : decode cX10_read 38 = .ok (.invokevirtual 74, 3) := dcw_182 (by decide +kernel)
theorem dX10_read_41 : decode cX10_read 41 = .ok (.aload_n 0, 1) := dc1_42 (by decide +kernel)
theorem dX10_read_42 : decode cX10_read 42 = .ok (.getfield 45, 3) := dcw_180 (by decide +kernel)
theorem dX10_read_45 : decode cX10_read 45 = .ok (.invokevirtual 99, 3) := dcw_182 (by decide +kernel)
theorem dX10_read_48 : decode cX10_read 48 = .ok (.aload_n 0, 1) := dc1_42 (by decide +kernel)
theorem dX10_read_49 : decode cX10_read 49 = .ok (.getfield 70, 3) := dcw_180 (by decide +kernel)
theorem dX10_read_52 : decode cX10_read 52 = .ok (.iconst 0, 1) := dc1_3 (by decide +kernel)
theorem dX10_read_53 : decode cX10_read 53 = .ok (.putfield 102, 3) := dcw_181 (by decide +kernel)
theorem dX10_read_56 : decode cX10_read 56 = .ok (.iload_n 1, 1) := dc1_27 (by decide +kernel)
theorem dX10_read_57 : decode cX10_read 57 = .ok (.ireturn, 1) := dc1_172 (by decide +kernel)
theorem ggX10_sure_X10_isHere : GoodIn wsX10_sure wsX10_isHere := gi_sub (fun w h => List.mem_cons_of_mem _ (List.mem_append_left _ (List.mem_append_left _ (List.mem_append_left _ (List.mem_append_left _ (List.mem_append_left _ (List.mem_append_left _ (List.mem_append_right _ (List.mem_append_left _ h))))))))) gd_wsX10_isHere
set_option maxRecDepth 20000 in
theorem gX10_sure_X10_isHere : GoodIn wsX10_sure (wsV RX10 164 RX10 yX10_isHere wsX10_isHere) := goodIn_app (goodIn_r _ [5, 6, 7, 8] (by decide +kernel) (by decide +kernel)) ggX10_sure_X10_isHere
theorem ggX10_sure_X6_copyFrom : GoodIn wsX10_sure wsX6_copyFrom := gi_sub (fun w h => List.mem_cons_of_mem _ (List.mem_append_left _ (List.mem_append_left _ (List.mem_append_left _ (List.mem_append_left _ (List.mem_append_left _ (List.mem_append_left _ (List.mem_append_right _ (List.mem_append_right _ (List.mem_append_left _ h)))))))))) gd_wsX6_copyFrom
set_option maxRecDepth 20000 in
theorem gX10_sure_X6_copyFrom_n227 : GoodIn wsX10_sure (wsX6_copyFrom) := ggX10_sure_X6_copyFrom
theorem ggX10_sure_X2_oddsOverWithin : GoodIn wsX10_sure wsX2_oddsOverWithin := gi_sub (fun w h => List.mem_cons_of_mem _ (List.mem_append_left _ (List.mem_append_left _ (List.mem_append_left _ (List.mem_append_left _ (List.mem_append_left _ (List.mem_append_left _ (List.mem_append_right _ (List.mem_append_right _ (List.mem_append_right _ h)))))))))) gd_wsX2_oddsOverWithin
set_option maxRecDepth 20000 in
theorem gX10_sure_X2_oddsOverWithin_n229 : GoodIn wsX10_sure (wsX2_oddsOverWithin) := ggX10_sure_X2_oddsOverWithin
theorem dX10_sure_0 : decode cX10_sure 0 = .ok (.aload_n 0, 1) := dc1_42 (by decide +kernel)
theorem dX10_sure_1 : decode cX10_sure 1 = .ok (.iload_n 1, 1) := dc1_27 (by decide +kernel)
theorem dX10_sure_2 : decode cX10_sure 2 = .ok (.invokevirtual 164, 3) := dcw_182 (by decide +kernel)
theorem dX10_sure_5 : decode cX10_sure 5 = .ok (.ifCond .eq 24, 3) := dcs_153 (n := 24) (by decide +kernel)
theorem dX10_sure_8 : decode cX10_sure 8 = .ok (.aload_n 0, 1) := dc1_42 (by decide +kernel)
theorem dX10_sure_9 : decode cX10_sure 9 = .ok (.getfield 19, 3) := dcw_180 (by decide +kernel)
theorem dX10_sure_12 : decode cX10_sure 12 = .ok (.getfield 167, 3) := dcw_180 (by decide +kernel)
theorem dX10_sure_15 : decode cX10_sure 15 = .ok (.ifCond .eq 14, 3) := dcs_153 (n := 14) (by decide +kernel)
theorem dX10_sure_18 : decode cX10_sure 18 = .ok (.iload_n 2, 1) := dc1_28 (by decide +kernel)
theorem dX10_sure_19 : decode cX10_sure 19 = .ok (.iconst 1, 1) := dc1_4 (by decide +kernel)
theorem dX10_sure_20 : decode cX10_sure 20 = .ok (.if_icmp .lt 9, 3) := dcs_161 (n := 9) (by decide +kernel)
theorem dX10_sure_23 : decode cX10_sure 23 = .ok (.iload_n 2, 1) := dc1_28 (by decide +kernel)
theorem dX10_sure_24 : decode cX10_sure 24 = .ok (.bipush 8, 2) := dcb_16 (n := 8) (by decide +kernel)
theorem dX10_sure_26 : decode cX10_sure 26 = .ok (.if_icmp .le 5, 3) := dcs_164 (n := 5) (by decide +kernel)
theorem dX10_sure_29 : decode cX10_sure 29 = .ok (.iconst (-1), 1) := dc1_2 (by decide +kernel)
theorem dX10_sure_30 : decode cX10_sure 30 = .ok (.ireturn, 1) := dc1_172 (by decide +kernel)
theorem dX10_sure_31 : decode cX10_sure 31 = .ok (.aload_n 0, 1) := dc1_42 (by decide +kernel)
theorem dX10_sure_32 : decode cX10_sure 32 = .ok (.getfield 39, 3) := dcw_180 (by decide +kernel)
theorem dX10_sure_35 : decode cX10_sure 35 = .ok (.aload_n 0, 1) := dc1_42 (by decide +kernel)
theorem dX10_sure_36 : decode cX10_sure 36 = .ok (.getfield 35, 3) := dcw_180 (by decide +kernel)
theorem dX10_sure_39 : decode cX10_sure 39 = .ok (.invokevirtual 227, 3) := dcw_182 (by decide +kernel)
theorem dX10_sure_42 : decode cX10_sure 42 = .ok (.aload_n 0, 1) := dc1_42 (by decide +kernel)
theorem dX10_sure_43 : decode cX10_sure 43 = .ok (.getfield 63, 3) := dcw_180 (by decide +kernel)
theorem dX10_sure_46 : decode cX10_sure 46 = .ok (.aload_n 0, 1) := dc1_42 (by decide +kernel)
theorem dX10_sure_47 : decode cX10_sure 47 = .ok (.getfield 39, 3) := dcw_180 (by decide +kernel)
theorem dX10_sure_50 : decode cX10_sure 50 = .ok (.iload_n 1, 1) := dc1_27 (by decide +kernel)
theorem dX10_sure_51 : decode cX10_sure 51 = .ok (.iload_n 2, 1) := dc1_28 (by decide +kernel)
theorem dX10_sure_52 : decode cX10_sure 52 = .ok (.invokevirtual 229, 3) := dcw_182 (by decide +kernel)
theorem dX10_sure_55 : decode cX10_sure 55 = .ok (.ireturn, 1) := dc1_172 (by decide +kernel)
theorem LX10_sure_19 : Cond.fieldLink RX10 19 "GuessFerry" "sound" "LGuessFerry$Sound;" ∈ wsX10_sure := (List.mem_cons_of_mem _ (List.mem_append_left _ (List.mem_append_left _ (List.mem_append_left _ (List.mem_append_left _ (List.mem_append_left _ (List.mem_append_left _ (List.mem_append_left _ (List.mem_of_getElem? (i := 0) rfl)))))))))
theorem LX10_sure_35 : Cond.fieldLink RX10 35 "GuessFerry" "now" "LGuessFerry$Standing;" ∈ wsX10_sure := (List.mem_cons_of_mem _ (List.mem_append_left _ (List.mem_append_left _ (List.mem_append_left _ (List.mem_append_left _ (List.mem_append_left _ (List.mem_append_left _ (List.mem_append_left _ (List.mem_of_getElem? (i := 2) rfl)))))))))
theorem LX10_sure_39 : Cond.fieldLink RX10 39 "GuessFerry" "trial" "LGuessFerry$Standing;" ∈ wsX10_sure := (List.mem_cons_of_mem _ (List.mem_append_left _ (List.mem_append_left _ (List.mem_append_left _ (List.mem_append_left _ (List.mem_append_left _ (List.mem_append_left _ (List.mem_append_left _ (List.mem_of_getElem? (i := 1) rfl)))))))))
theorem LX10_sure_63 : Cond.fieldLink RX10 63 "GuessFerry" "outlook" "LGuessFerry$Outlook;" ∈ wsX10_sure := (List.mem_cons_of_mem _ (List.mem_append_left _ (List.mem_append_left _ (List.mem_append_left _ (List.mem_append_left _ (List.mem_append_left _ (List.mem_append_left _ (List.mem_append_left _ (List.mem_of_getElem? (i := 3) rfl)))))))))
theorem LX10_sure_E_X2_oddsOverWithin : Cond.selects RX2 yX2_oddsOverWithin yX2_oddsOverWithin ∈ wsX10_sure := (List.mem_cons_of_mem _ (List.mem_append_left _ (List.mem_append_left _ (List.mem_append_left _ (List.mem_append_left _ (List.mem_append_left _ (List.mem_append_left _ (List.mem_append_left _ (List.mem_of_getElem? (i := 13) rfl)))))))))
theorem LX10_sure_E_X6_copyFrom : Cond.selects RX6 yX6_copyFrom yX6_copyFrom ∈ wsX10_sure := (List.mem_cons_of_mem _ (List.mem_append_left _ (List.mem_append_left _ (List.mem_append_left _ (List.mem_append_left _ (List.mem_append_left _ (List.mem_append_left _ (List.mem_append_left _ (List.mem_of_getElem? (i := 10) rfl)))))))))
theorem LX10_sure_I_X2 : Cond.initialized RX2 ∈ wsX10_sure := (List.mem_cons_of_mem _ (List.mem_append_left _ (List.mem_append_left _ (List.mem_append_left _ (List.mem_append_left _ (List.mem_append_left _ (List.mem_append_left _ (List.mem_append_left _ (List.mem_of_getElem? (i := 12) rfl)))))))))
theorem LX10_sure_I_X6 : Cond.initialized RX6 ∈ wsX10_sure := (List.mem_cons_of_mem _ (List.mem_append_left _ (List.mem_append_left _ (List.mem_append_left _ (List.mem_append_left _ (List.mem_append_left _ (List.mem_append_left _ (List.mem_append_left _ (List.mem_of_getElem? (i := 9) rfl)))))))))
theorem LX10_sure_N_X2_oddsOverWithin : Cond.instanceMethod yX2_oddsOverWithin ∈ wsX10_sure := (List.mem_cons_of_mem _ (List.mem_append_left _ (List.mem_append_left _ (List.mem_append_left _ (List.mem_append_left _ (List.mem_append_left _ (List.mem_append_left _ (List.mem_append_left _ (List.mem_of_getElem? (i := 11) rfl)))))))))
theorem LX10_sure_N_X6_copyFrom : Cond.instanceMethod yX6_copyFrom ∈ wsX10_sure := (List.mem_cons_of_mem _ (List.mem_append_left _ (List.mem_append_left _ (List.mem_append_left _ (List.mem_append_left _ (List.mem_append_left _ (List.mem_append_left _ (List.mem_append_left _ (List.mem_of_getElem? (i := 8) rfl)))))))))
theorem inX10_sure_X10 : ∀ w ∈ u_ws RX10 TX10 9, w ∈ wsX10_sure := fun w h => (List.mem_cons_of_mem _ (List.mem_append_left _ (List.mem_append_left _ (List.mem_append_left _ (List.mem_append_left _ (List.mem_append_left _ (List.mem_append_right _ h)))))))
theorem inX10_sure_X5 : ∀ w ∈ u_ws RX5 TX5 10, w ∈ wsX10_sure := fun w h => (List.mem_cons_of_mem _ (List.mem_append_left _ (List.mem_append_left _ (List.mem_append_left _ (List.mem_append_left _ (List.mem_append_right _ h))))))
set_option maxHeartbeats 4000000 in
set_option maxRecDepth 100000 in
theorem bkX10_sure {l : Launch} {dC : Nat → ClassId} {dI : Nat → Nat → Nat} {cB cI cJ cZ cS : ClassId} {a b b2 c0 : Nat → Nat} {rg sl : Nat → Option Nat} {as : List Value} {r : Int32} {s' : XS} (s : XS) (x1 : Int32) (x2 : Int32) (hB : kX10_sure s x1 x2 = some (r, s')) : BlkI l yX10_sure wsX10_sure ({ frames := 16, cells := 0, slots := 0, locals := 432 }) cX10_sure 3 (some .int) (dC, dI) (tysA cB cI cJ cZ cS) as 0 (wX cB cI cJ cZ cS a b b2 c0 rg sl s) [(0, .ref (c0 0)), (1, .int x1), (2, .int x2)] [] (fun x u => x = r ∧ u = (wX cB cI cJ cZ cS a b b2 c0 rg sl s')) := by
  intro p e s0 m below meth c A E H locs ls hP hD hS hl
  obtain ⟨C, hr, hlocks, hA, hK, hN⟩ := id E
  obtain ⟨hx, hb, hml, hown, hts⟩ := id C
  unfold kX10_sure at hB
  refine lv_aload_n hx hb dX10_sure_0 rfl (lv_at hl 0 rfl) ?_
  refine lv_iload_n hx hb dX10_sure_1 rfl (lv_at hl 1 rfl) ?_
  obtain ⟨q_, s1, hc, hB⟩ := bindI_inv hB
  refine q_goiF (va_runV (As := [.int x1]) (rest := []) C (ckX10_isHere hc _) (cwV 1 hts gX10_sure_X10_isHere rfl rfl rfl (by decide +kernel) ⟨Nat.le_of_ble_eq_true rfl, Nat.le_of_ble_eq_true rfl⟩) (q_preV hK hP (ci := 10) (q0 := 0) rfl rfl rfl (q_preF hN hK hP hD)) rfl rfl hl.1 rfl (lv_room (Nat.le_of_ble_eq_true rfl)) dX10_sure_2 ⟨Nat.le_of_ble_eq_true rfl, Nat.le_of_ble_eq_true rfl⟩) hD hS hA (fun r2 w1 H locs hw hP hD hS => ?_)
  obtain ⟨hq_, hw⟩ := hw; subst hw; subst hq_
  refine lv_if_eq (tgt := 29) hx hb dX10_sure_5 (by decide) (fun c3 => ?_) (fun c3 => ?_)
  · have hB := if_p hB c3
    refine lv_iconst (v := (-1)) hx hb dX10_sure_29 (by decide) ?_
    exact q_iret C hr hlocks hK hP hD hS (Nat.le_of_ble_eq_true rfl) (Nat.le_of_ble_eq_true rfl) dX10_sure_30 (by cases hB; exact ⟨rfl, rfl⟩)
  · have hB := if_n hB c3
    refine lv_aload_n hx hb dX10_sure_8 rfl (lv_at hl 0 rfl) ?_
    refine q_get (v := .ref (a 2)) C inX10_sure_X10 hK hP 0 rfl rfl 1 (by decide) rfl LX10_sure_19 rfl dX10_sure_9 ?_
    refine q_getN (v := .int (s1.k.v 1)) C hN inX10_sure_X5 hK hP 19 rfl rfl 6 (by decide) rfl nwF_X10_167 rfl dX10_sure_12 ?_
    refine lv_if_eq (tgt := 29) hx hb dX10_sure_15 (by decide) (fun c4 => ?_) (fun c4 => ?_)
    · have hB := if_p hB c4
      refine lv_iconst (v := (-1)) hx hb dX10_sure_29 (by decide) ?_
      exact q_iret C hr hlocks hK hP hD hS (Nat.le_of_ble_eq_true rfl) (Nat.le_of_ble_eq_true rfl) dX10_sure_30 (by cases hB; exact ⟨rfl, rfl⟩)
    · have hB := if_n hB c4
      refine lv_iload_n hx hb dX10_sure_18 rfl (lv_at hl 2 rfl) ?_
      refine lv_iconst (v := 1) hx hb dX10_sure_19 (by decide) ?_
      refine lv_icmp_lt (tgt := 29) hx hb dX10_sure_20 (by decide) (fun c5 => ?_) (fun c5 => ?_)
      · have hB := if_p hB c5
        refine lv_iconst (v := (-1)) hx hb dX10_sure_29 (by decide) ?_
        exact q_iret C hr hlocks hK hP hD hS (Nat.le_of_ble_eq_true rfl) (Nat.le_of_ble_eq_true rfl) dX10_sure_30 (by cases hB; exact ⟨rfl, rfl⟩)
      · have hB := if_n hB c5
        refine lv_iload_n hx hb dX10_sure_23 rfl (lv_at hl 2 rfl) ?_
        refine lv_bipush (v := 8) hx hb dX10_sure_24 (by decide) ?_
        refine lv_icmp_le (tgt := 31) hx hb dX10_sure_26 (by decide) (fun c6 => ?_) (fun c6 => ?_)
        · have hB := if_p hB c6
          refine lv_aload_n hx hb dX10_sure_31 rfl (lv_at hl 0 rfl) ?_
          refine q_get (v := .ref (b2 0)) C inX10_sure_X10 hK hP 0 rfl rfl 4 (by decide) rfl LX10_sure_39 rfl dX10_sure_32 ?_
          refine lv_aload_n hx hb dX10_sure_35 rfl (lv_at hl 0 rfl) ?_
          refine q_get (v := .ref (b 0)) C inX10_sure_X10 hK hP 0 rfl rfl 3 (by decide) rfl LX10_sure_35 rfl dX10_sure_36 ?_
          obtain ⟨s7, hc, hB⟩ := bindP_inv hB
          refine q_gov (wr := ((wG cZ cS a b b2 c0 rg sl s1.g) ++ (wK cB cI cJ cZ cS a s1.k))) (va_runVN (As := [.ref (b 0)]) (rest := []) C (ckX6_copyFrom hc _) ⟨va_cnB 1 hts gX10_sure_X6_copyFrom_n227 rfl rfl rfl (hN _ nwM_X10_227 rfl) (hts _ LX10_sure_I_X6) (by decide +kernel) ⟨Nat.le_of_ble_eq_true rfl, Nat.le_of_ble_eq_true rfl⟩, hts _ LX10_sure_N_X6_copyFrom, hts _ LX10_sure_E_X6_copyFrom⟩ (q_preV hK hP (ci := 6) (q0 := 5) rfl rfl rfl (q_pre hN hK hP hD [11, 12, 13, 14, 15, 16, 5, 6, 7, 8, 9, 10] rfl (by decide))) rfl rfl hl.1 rfl (lv_room (Nat.le_of_ble_eq_true rfl)) dX10_sure_39 ⟨Nat.le_of_ble_eq_true rfl, Nat.le_of_ble_eq_true rfl⟩) hP hD hS hA [11, 12, 13, 14, 15, 16, 5, 6, 7, 8, 9, 10] [0, 1, 2, 3, 4, 17, 18, 19, 20, 21, 22, 23, 24, 25, 26, 27, 28, 29, 30, 31, 32, 33, 34, 35, 36, 37, 38, 39, 40, 41, 42, 43, 44, 45, 46, 47, 48, 49, 50, 51, 52, 53, 54, 55, 56, 57, 58, 59, 60, 61, 62, 63] rfl rfl (by decide) (by decide) (fun w1 H locs hw hP hD hS => ?_)
          subst hw
          obtain ⟨s8, hs9, hB⟩ := letS_inv hB
          have hP : va_P (dC, dI) vwCl (wX cB cI cJ cZ cS a b b2 c0 rg sl s8) H := by subst hs9; exact hP.sub [0, 1, 2, 3, 4, 58, 59, 60, 61, 62, 63, 52, 53, 54, 55, 56, 57, 5, 6, 7, 8, 9, 10, 11, 12, 13, 14, 15, 16, 17, 18, 19, 20, 21, 22, 23, 24, 25, 26, 27, 28, 29, 30, 31, 32, 33, 34, 35, 36, 37, 38, 39, 40, 41, 42, 43, 44, 45, 46, 47, 48, 49, 50, 51] rfl
          have hD : va_D A (wX cB cI cJ cZ cS a b b2 c0 rg sl s8) := by subst hs9; exact hD.sub [0, 1, 2, 3, 4, 58, 59, 60, 61, 62, 63, 52, 53, 54, 55, 56, 57, 5, 6, 7, 8, 9, 10, 11, 12, 13, 14, 15, 16, 17, 18, 19, 20, 21, 22, 23, 24, 25, 26, 27, 28, 29, 30, 31, 32, 33, 34, 35, 36, 37, 38, 39, 40, 41, 42, 43, 44, 45, 46, 47, 48, 49, 50, 51] (by decide) rfl
          refine lv_aload_n hx hb dX10_sure_42 rfl (lv_at hl 0 rfl) ?_
          refine q_get (v := .ref (a 36)) C inX10_sure_X10 hK hP 0 rfl rfl 7 (by decide) rfl LX10_sure_63 rfl dX10_sure_43 ?_
          refine lv_aload_n hx hb dX10_sure_46 rfl (lv_at hl 0 rfl) ?_
          refine q_get (v := .ref (b2 0)) C inX10_sure_X10 hK hP 0 rfl rfl 4 (by decide) rfl LX10_sure_39 rfl dX10_sure_47 ?_
          refine lv_iload_n hx hb dX10_sure_50 rfl (lv_at hl 1 rfl) ?_
          refine lv_iload_n hx hb dX10_sure_51 rfl (lv_at hl 2 rfl) ?_
          obtain ⟨q_, s10, hc, hB⟩ := bindI_inv hB
          refine q_goi (wr := ((wG cZ cS a b b2 c0 rg sl s8.g) ++ (wD cI b s8.n))) (va_runVN (As := [.ref (b2 0), .int x1, .int x2]) (rest := []) C (ckX2_oddsOverWithin_9 hc _) ⟨va_cnB 3 hts gX10_sure_X2_oddsOverWithin_n229 rfl rfl rfl (hN _ nwM_X10_229 rfl) (hts _ LX10_sure_I_X2) (by decide +kernel) ⟨Nat.le_of_ble_eq_true rfl, Nat.le_of_ble_eq_true rfl⟩, hts _ LX10_sure_N_X2_oddsOverWithin, hts _ LX10_sure_E_X2_oddsOverWithin⟩ (q_preV hK hP (ci := 2) (q0 := 53) rfl rfl rfl (q_pre hN hK hP hD [5, 6, 7, 8, 9, 10, 17, 18, 19, 20, 21, 22, 23, 24, 25, 26, 27, 28, 29, 30, 31, 32, 33, 34, 35, 36, 37, 38, 39, 40, 41, 42, 43, 44, 45, 46, 47, 48, 49, 50, 51, 52, 53, 54, 55, 56, 57, 58, 59, 60, 61, 62, 63] rfl (by decide))) rfl rfl hl.1 rfl (lv_room (Nat.le_of_ble_eq_true rfl)) dX10_sure_52 ⟨Nat.le_of_ble_eq_true rfl, Nat.le_of_ble_eq_true rfl⟩) hP hD hS hA [5, 6, 7, 8, 9, 10, 17, 18, 19, 20, 21, 22, 23, 24, 25, 26, 27, 28, 29, 30, 31, 32, 33, 34, 35, 36, 37, 38, 39, 40, 41, 42, 43, 44, 45, 46, 47, 48, 49, 50, 51, 52, 53, 54, 55, 56, 57, 58, 59, 60, 61, 62, 63] [0, 1, 2, 3, 4, 11, 12, 13, 14, 15, 16] rfl rfl (by decide) (by decide) (fun r11 w1 H locs hw hP hD hS => ?_)
          obtain ⟨hq_, hw⟩ := hw; subst hw; subst hq_
          obtain ⟨s12, hs13, hB⟩ := letS_inv hB
          have hP : va_P (dC, dI) vwCl (wX cB cI cJ cZ cS a b b2 c0 rg sl s12) H := by subst hs13; exact hP.sub [0, 1, 2, 3, 4, 11, 12, 13, 14, 15, 16, 5, 6, 7, 8, 9, 10, 17, 18, 19, 20, 21, 22, 23, 24, 25, 26, 27, 28, 29, 30, 31, 32, 33, 34, 35, 36, 37, 38, 39, 40, 41, 42, 43, 44, 45, 46, 47, 48, 49, 50, 51, 52, 53, 54, 55, 56, 57, 58, 59, 60, 61, 62, 63] rfl
          have hD : va_D A (wX cB cI cJ cZ cS a b b2 c0 rg sl s12) := by subst hs13; exact hD.sub [0, 1, 2, 3, 4, 11, 12, 13, 14, 15, 16, 5, 6, 7, 8, 9, 10, 17, 18, 19, 20, 21, 22, 23, 24, 25, 26, 27, 28, 29, 30, 31, 32, 33, 34, 35, 36, 37, 38, 39, 40, 41, 42, 43, 44, 45, 46, 47, 48, 49, 50, 51, 52, 53, 54, 55, 56, 57, 58, 59, 60, 61, 62, 63] (by decide) rfl
          exact q_iret C hr hlocks hK hP hD hS (Nat.le_of_ble_eq_true rfl) (Nat.le_of_ble_eq_true rfl) dX10_sure_55 (by cases hB; exact ⟨rfl, rfl⟩)
        · have hB := if_n hB c6
          refine lv_iconst (v := (-1)) hx hb dX10_sure_29 (by decide) ?_
          exact q_iret C hr hlocks hK hP hD hS (Nat.le_of_ble_eq_true rfl) (Nat.le_of_ble_eq_true rfl) dX10_sure_30 (by cases hB; exact ⟨rfl, rfl⟩)
theorem ckX10_sure {l : Launch} {dC : Nat → ClassId} {dI : Nat → Nat → Nat} {cB cI cJ cZ cS : ClassId} {a b b2 c0 : Nat → Nat} {rg sl : Nat → Option Nat} {r : Int32} {s' : XS} {s : XS} {x1 : Int32} {x2 : Int32} (hB : kX10_sure s x1 x2 = some (r, s')) : CI l yX10_sure wsX10_sure ({ frames := 16, cells := 0, slots := 0, locals := 432 }) (dC, dI) (tysA cB cI cJ cZ cS) (wX cB cI cJ cZ cS a b b2 c0 rg sl s) [.ref (c0 0), .int x1, .int x2] (fun x u => x = r ∧ u = (wX cB cI cJ cZ cS a b b2 c0 rg sl s')) :=
  CI_of (cc := cX10_sure) (maxL := 3) (ret := (some .int)) (by decide) rfl (Nat.le_of_ble_eq_true rfl) (bkX10_sure _ _ _ hB)
theorem LX4_readLaw_12 : Cond.fieldLink RX4 12 "GuessFerry$Reader" "draft" "LGuessFerry$Sound;" ∈ wsX4_readLaw := (List.mem_cons_of_mem _ (List.mem_append_left _ (List.mem_append_left _ (List.mem_append_left _ (List.mem_append_left _ (List.mem_append_left _ (List.mem_of_getElem? (i := 0) rfl)))))))
theorem LX4_readLaw_E_X1_begin : Cond.selects RX1 yX1_begin yX1_begin ∈ wsX4_readLaw := (List.mem_cons_of_mem _ (List.mem_append_left _ (List.mem_append_left _ (List.mem_append_left _ (List.mem_append_left _ (List.mem_append_left _ (List.mem_of_getElem? (i := 13) rfl)))))))
theorem LX4_readLaw_I_X1 : Cond.initialized RX1 ∈ wsX4_readLaw := (List.mem_cons_of_mem _ (List.mem_append_left _ (List.mem_append_left _ (List.mem_append_left _ (List.mem_append_left _ (List.mem_append_left _ (List.mem_of_getElem? (i := 12) rfl)))))))
theorem LX4_readLaw_N_X1_begin : Cond.instanceMethod yX1_begin ∈ wsX4_readLaw := (List.mem_cons_of_mem _ (List.mem_append_left _ (List.mem_append_left _ (List.mem_append_left _ (List.mem_append_left _ (List.mem_append_left _ (List.mem_of_getElem? (i := 11) rfl)))))))
theorem inX4_readLaw_X4 : ∀ w ∈ u_ws RX4 TX4 8, w ∈ wsX4_readLaw := fun w h => (List.mem_cons_of_mem _ (List.mem_append_left _ (List.mem_append_left _ (List.mem_append_left _ (List.mem_append_right _ h)))))
theorem inX4_readLaw_X5 : ∀ w ∈ u_ws RX5 TX5 10, w ∈ wsX4_readLaw := fun w h => (List.mem_cons_of_mem _ (List.mem_append_left _ (List.mem_append_left _ (List.mem_append_right _ h))))
set_option maxHeartbeats 4000000 in
set_option maxRecDepth 100000 in
theorem bkX4_readLaw_77 {l : Launch} {dC : Nat → ClassId} {dI : Nat → Nat → Nat} {cB cI cJ cZ cS : ClassId} {a : Nat → Nat} {as : List Value} {s' : KS} (s : KS) (hB : kX4_readLaw_77 s = some s') : BlkV l yX4_readLaw wsX4_readLaw ({ frames := 28, cells := 0, slots := 0, locals := 638 }) cX4_readLaw 3 none (dC, dI) (tysA cB cI cJ cZ cS) as 77 (wK cB cI cJ cZ cS a s) [(0, .ref (a 28))] [] (fun u => u = (wK cB cI cJ cZ cS a s')) := by
  intro p e s0 m below meth c A E H locs ls hP hD hS hl
  obtain ⟨C, hr, hlocks, hA, hK, hN⟩ := id E
  obtain ⟨hx, hb, hml, hown, hts⟩ := id C
  unfold kX4_readLaw_77 at hB
  refine lv_aload_n hx hb dX4_readLaw_77 rfl (lv_at hl 0 rfl) ?_
  refine lv_bipush (v := 59) hx hb dX4_readLaw_78 (by decide) ?_
  obtain ⟨s1, hc, hB⟩ := bindP_inv hB
  refine q_govF (va_runV (As := [.int 59]) (rest := []) C (ckX4_readPart hc _) (cwV 1 hts gX4_readLaw_X4_readPart rfl rfl rfl (by decide +kernel) ⟨Nat.le_of_ble_eq_true rfl, Nat.le_of_ble_eq_true rfl⟩) (q_preV hK hP (ci := 4) (q0 := 28) rfl rfl rfl (q_preF hN hK hP hD)) rfl rfl hl.1 rfl (lv_room (Nat.le_of_ble_eq_true rfl)) dX4_readLaw_80 ⟨Nat.le_of_ble_eq_true rfl, Nat.le_of_ble_eq_true rfl⟩) hD hS hA (fun w1 H locs hw hP hD hS => ?_)
  subst hw
  exact q_vret C hr hlocks hK hP hD hS (Nat.le_of_ble_eq_true rfl) (Nat.le_of_ble_eq_true rfl) dX4_readLaw_83 (by cases hB; rfl)
set_option maxHeartbeats 4000000 in
set_option maxRecDepth 100000 in
theorem bkX4_readLaw_44 {l : Launch} {dC : Nat → ClassId} {dI : Nat → Nat → Nat} {cB cI cJ cZ cS : ClassId} {a : Nat → Nat} {as : List Value} {s' : KS} {k19 : KS → Int32 → Option KS} (hk19 : ∀ (s : KS) (x2 : Int32), k19 s x2 = some s' → BlkV l yX4_readLaw wsX4_readLaw ({ frames := 28, cells := 0, slots := 0, locals := 638 }) cX4_readLaw 3 none (dC, dI) (tysA cB cI cJ cZ cS) as 19 (wK cB cI cJ cZ cS a s) [(0, .ref (a 28)), (2, .int x2)] [] (fun u => u = (wK cB cI cJ cZ cS a s'))) (s : KS) (x2 : Int32) (hB : kX4_readLaw_44 k19 s x2 = some s') : BlkV l yX4_readLaw wsX4_readLaw ({ frames := 28, cells := 0, slots := 0, locals := 638 }) cX4_readLaw 3 none (dC, dI) (tysA cB cI cJ cZ cS) as 44 (wK cB cI cJ cZ cS a s) [(0, .ref (a 28)), (2, .int x2)] [] (fun u => u = (wK cB cI cJ cZ cS a s')) := by
  intro p e s0 m below meth c A E H locs ls hP hD hS hl
  obtain ⟨C, hr, hlocks, hA, hK, hN⟩ := id E
  obtain ⟨hx, hb, hml, hown, hts⟩ := id C
  unfold kX4_readLaw_44 at hB
  refine lv_aload_n hx hb dX4_readLaw_44 rfl (lv_at hl 0 rfl) ?_
  refine lv_sipush (v := 263) hx hb dX4_readLaw_45 (by decide) ?_
  obtain ⟨s1, hc, hB⟩ := bindP_inv hB
  refine q_govF (va_runV (As := [.int 263]) (rest := []) C (ckX4_take hc _) (cwV 1 hts gX4_readLaw_X4_take rfl rfl rfl (by decide +kernel) ⟨Nat.le_of_ble_eq_true rfl, Nat.le_of_ble_eq_true rfl⟩) (q_preV hK hP (ci := 4) (q0 := 28) rfl rfl rfl (q_preF hN hK hP hD)) rfl rfl hl.1 rfl (lv_room (Nat.le_of_ble_eq_true rfl)) dX4_readLaw_48 ⟨Nat.le_of_ble_eq_true rfl, Nat.le_of_ble_eq_true rfl⟩) hD hS hA (fun w1 H locs hw hP hD hS => ?_)
  subst hw
  refine lv_aload_n hx hb dX4_readLaw_51 rfl (lv_at hl 0 rfl) ?_
  refine lv_bipush (v := 60) hx hb dX4_readLaw_52 (by decide) ?_
  obtain ⟨s2, hc, hB⟩ := bindP_inv hB
  refine q_govF (va_runV (As := [.int 60]) (rest := []) C (ckX4_readPart hc _) (cwV 1 hts gX4_readLaw_X4_readPart rfl rfl rfl (by decide +kernel) ⟨Nat.le_of_ble_eq_true rfl, Nat.le_of_ble_eq_true rfl⟩) (q_preV hK hP (ci := 4) (q0 := 28) rfl rfl rfl (q_preF hN hK hP hD)) rfl rfl hl.1 rfl (lv_room (Nat.le_of_ble_eq_true rfl)) dX4_readLaw_54 ⟨Nat.le_of_ble_eq_true rfl, Nat.le_of_ble_eq_true rfl⟩) hD hS hA (fun w1 H locs hw hP hD hS => ?_)
  subst hw
  refine lv_aload_n hx hb dX4_readLaw_57 rfl (lv_at hl 0 rfl) ?_
  refine lv_sipush (v := 264) hx hb dX4_readLaw_58 (by decide) ?_
  obtain ⟨s3, hc, hB⟩ := bindP_inv hB
  refine q_govF (va_runV (As := [.int 264]) (rest := []) C (ckX4_readPart hc _) (cwV 1 hts gX4_readLaw_X4_readPart rfl rfl rfl (by decide +kernel) ⟨Nat.le_of_ble_eq_true rfl, Nat.le_of_ble_eq_true rfl⟩) (q_preV hK hP (ci := 4) (q0 := 28) rfl rfl rfl (q_preF hN hK hP hD)) rfl rfl hl.1 rfl (lv_room (Nat.le_of_ble_eq_true rfl)) dX4_readLaw_61 ⟨Nat.le_of_ble_eq_true rfl, Nat.le_of_ble_eq_true rfl⟩) hD hS hA (fun w1 H locs hw hP hD hS => ?_)
  subst hw
  refine lv_aload_n hx hb dX4_readLaw_64 rfl (lv_at hl 0 rfl) ?_
  refine lv_sipush (v := 265) hx hb dX4_readLaw_65 (by decide) ?_
  obtain ⟨s4, hc, hB⟩ := bindP_inv hB
  refine q_govF (va_runV (As := [.int 265]) (rest := []) C (ckX4_readPart hc _) (cwV 1 hts gX4_readLaw_X4_readPart rfl rfl rfl (by decide +kernel) ⟨Nat.le_of_ble_eq_true rfl, Nat.le_of_ble_eq_true rfl⟩) (q_preV hK hP (ci := 4) (q0 := 28) rfl rfl rfl (q_preF hN hK hP hD)) rfl rfl hl.1 rfl (lv_room (Nat.le_of_ble_eq_true rfl)) dX4_readLaw_68 ⟨Nat.le_of_ble_eq_true rfl, Nat.le_of_ble_eq_true rfl⟩) hD hS hA (fun w1 H locs hw hP hD hS => ?_)
  subst hw
  refine lv_iinc (v := (x2 + 1)) (lv' := [(2, .int (x2 + 1)), (0, .ref (a 28))]) hx hb dX4_readLaw_71 hl (k := 1) rfl (rfl) (by decide) rfl (fun ls hl => ?_)
  refine lv_goto (tgt := 19) hx hb dX4_readLaw_74 (by decide) ?_
  exact hk19 _ _ hB p e s0 m below meth c A E H locs ls hP hD hS (lv_sub hl [1, 0] rfl)
set_option maxHeartbeats 4000000 in
set_option maxRecDepth 100000 in
theorem bkX4_readLaw_19 {l : Launch} {dC : Nat → ClassId} {dI : Nat → Nat → Nat} {cB cI cJ cZ cS : ClassId} {a : Nat → Nat} {as : List Value} {s' : KS} {k19 : KS → Int32 → Option KS} (hk19 : ∀ (s : KS) (x2 : Int32), k19 s x2 = some s' → BlkV l yX4_readLaw wsX4_readLaw ({ frames := 28, cells := 0, slots := 0, locals := 638 }) cX4_readLaw 3 none (dC, dI) (tysA cB cI cJ cZ cS) as 19 (wK cB cI cJ cZ cS a s) [(0, .ref (a 28)), (2, .int x2)] [] (fun u => u = (wK cB cI cJ cZ cS a s'))) (s : KS) (x2 : Int32) (hB : kX4_readLaw_19 k19 s x2 = some s') : BlkV l yX4_readLaw wsX4_readLaw ({ frames := 28, cells := 0, slots := 0, locals := 638 }) cX4_readLaw 3 none (dC, dI) (tysA cB cI cJ cZ cS) as 19 (wK cB cI cJ cZ cS a s) [(0, .ref (a 28)), (2, .int x2)] [] (fun u => u = (wK cB cI cJ cZ cS a s')) := by
  intro p e s0 m below meth c A E H locs ls hP hD hS hl
  obtain ⟨C, hr, hlocks, hA, hK, hN⟩ := id E
  obtain ⟨hx, hb, hml, hown, hts⟩ := id C
  unfold kX4_readLaw_19 at hB
  refine lv_iload_n hx hb dX4_readLaw_19 rfl (lv_at hl 1 rfl) ?_
  refine lv_iconst (v := 4) hx hb dX4_readLaw_20 (by decide) ?_
  refine lv_icmp_gt (tgt := 77) hx hb dX4_readLaw_21 (by decide) (fun c1 => ?_) (fun c1 => ?_)
  · have hB := if_p hB c1
    exact bkX4_readLaw_77 _ hB p e s0 m below meth c A E H locs ls hP hD hS (lv_sub hl [0] rfl)
  · have hB := if_n hB c1
    refine lv_aload_n hx hb dX4_readLaw_24 rfl (lv_at hl 0 rfl) ?_
    refine lv_sipush (v := 263) hx hb dX4_readLaw_25 (by decide) ?_
    obtain ⟨q_, s2, hc, hB⟩ := bindI_inv hB
    refine q_goiF (va_runV (As := [.int 263]) (rest := []) C (ckX4_isAt hc _) (cwV 1 hts gX4_readLaw_X4_isAt rfl rfl rfl (by decide +kernel) ⟨Nat.le_of_ble_eq_true rfl, Nat.le_of_ble_eq_true rfl⟩) (q_preV hK hP (ci := 4) (q0 := 28) rfl rfl rfl (q_preF hN hK hP hD)) rfl rfl hl.1 rfl (lv_room (Nat.le_of_ble_eq_true rfl)) dX4_readLaw_28 ⟨Nat.le_of_ble_eq_true rfl, Nat.le_of_ble_eq_true rfl⟩) hD hS hA (fun r3 w1 H locs hw hP hD hS => ?_)
    obtain ⟨hq_, hw⟩ := hw; subst hw; subst hq_
    refine lv_if_eq (tgt := 77) hx hb dX4_readLaw_31 (by decide) (fun c4 => ?_) (fun c4 => ?_)
    · have hB := if_p hB c4
      exact bkX4_readLaw_77 _ hB p e s0 m below meth c A E H locs ls hP hD hS (lv_sub hl [0] rfl)
    · have hB := if_n hB c4
      refine lv_iload_n hx hb dX4_readLaw_34 rfl (lv_at hl 1 rfl) ?_
      refine lv_iconst (v := 4) hx hb dX4_readLaw_35 (by decide) ?_
      refine lv_icmp_ne (tgt := 44) hx hb dX4_readLaw_36 (by decide) (fun c5 => ?_) (fun c5 => ?_)
      · have hB := if_n hB c5
        exact bkX4_readLaw_44 (hk19) _ _ hB p e s0 m below meth c A E H locs ls hP hD hS (lv_sub hl [0, 1] rfl)
      · have hB := if_p hB c5
        refine lv_aload_n hx hb dX4_readLaw_39 rfl (lv_at hl 0 rfl) ?_
        refine lv_iconst (v := 2) hx hb dX4_readLaw_40 (by decide) ?_
        obtain ⟨s6, hc, hB⟩ := bindP_inv hB
        refine q_govF (va_runV (As := [.int 2]) (rest := []) C (ckX4_fail hc _) (cwV 1 hts gX4_readLaw_X4_fail rfl rfl rfl (by decide +kernel) ⟨Nat.le_of_ble_eq_true rfl, Nat.le_of_ble_eq_true rfl⟩) (q_preV hK hP (ci := 4) (q0 := 28) rfl rfl rfl (q_preF hN hK hP hD)) rfl rfl hl.1 rfl (lv_room (Nat.le_of_ble_eq_true rfl)) dX4_readLaw_41 ⟨Nat.le_of_ble_eq_true rfl, Nat.le_of_ble_eq_true rfl⟩) hD hS hA (fun w1 H locs hw hP hD hS => ?_)
        subst hw
        exact bkX4_readLaw_44 (hk19) _ _ hB p e s0 m below meth c A E H locs ls hP hD hS (lv_sub hl [0, 1] rfl)
theorem bkX4_readLaw_19L {l : Launch} {dC : Nat → ClassId} {dI : Nat → Nat → Nat} {cB cI cJ cZ cS : ClassId} {a : Nat → Nat} {as : List Value} {s' : KS} : ∀ (n : Nat) (s : KS) (x2 : Int32), kX4_readLaw_19L n s x2 = some s' → BlkV l yX4_readLaw wsX4_readLaw ({ frames := 28, cells := 0, slots := 0, locals := 638 }) cX4_readLaw 3 none (dC, dI) (tysA cB cI cJ cZ cS) as 19 (wK cB cI cJ cZ cS a s) [(0, .ref (a 28)), (2, .int x2)] [] (fun u => u = (wK cB cI cJ cZ cS a s')) := by
  intro n
  induction n with
  | zero => intro s x2 hB; exact none_ne hB
  | succ n ih => intro s x2 hB; exact bkX4_readLaw_19 ih _ _ hB
set_option maxHeartbeats 4000000 in
set_option maxRecDepth 100000 in
theorem bkX4_readLaw {l : Launch} {dC : Nat → ClassId} {dI : Nat → Nat → Nat} {cB cI cJ cZ cS : ClassId} {a : Nat → Nat} {as : List Value} {s' : KS} (s : KS) (x1 : Int32) (hB : kX4_readLaw s x1 = some s') : BlkV l yX4_readLaw wsX4_readLaw ({ frames := 28, cells := 0, slots := 0, locals := 638 }) cX4_readLaw 3 none (dC, dI) (tysA cB cI cJ cZ cS) as 0 (wK cB cI cJ cZ cS a s) [(0, .ref (a 28)), (1, .int x1)] [] (fun u => u = (wK cB cI cJ cZ cS a s')) := by
  intro p e s0 m below meth c A E H locs ls hP hD hS hl
  obtain ⟨C, hr, hlocks, hA, hK, hN⟩ := id E
  obtain ⟨hx, hb, hml, hown, hts⟩ := id C
  unfold kX4_readLaw at hB
  refine lv_aload_n hx hb dX4_readLaw_0 rfl (lv_at hl 0 rfl) ?_
  refine lv_bipush (v := 61) hx hb dX4_readLaw_1 (by decide) ?_
  obtain ⟨s1, hc, hB⟩ := bindP_inv hB
  refine q_govF (va_runV (As := [.int 61]) (rest := []) C (ckX4_take hc _) (cwV 1 hts gX4_readLaw_X4_take rfl rfl rfl (by decide +kernel) ⟨Nat.le_of_ble_eq_true rfl, Nat.le_of_ble_eq_true rfl⟩) (q_preV hK hP (ci := 4) (q0 := 28) rfl rfl rfl (q_preF hN hK hP hD)) rfl rfl hl.1 rfl (lv_room (Nat.le_of_ble_eq_true rfl)) dX4_readLaw_3 ⟨Nat.le_of_ble_eq_true rfl, Nat.le_of_ble_eq_true rfl⟩) hD hS hA (fun w1 H locs hw hP hD hS => ?_)
  subst hw
  refine lv_aload_n hx hb dX4_readLaw_6 rfl (lv_at hl 0 rfl) ?_
  refine q_get (v := .ref (a 15)) C inX4_readLaw_X4 hK hP 28 rfl rfl 1 (by decide) rfl LX4_readLaw_12 rfl dX4_readLaw_7 ?_
  refine q_getN (v := .ref (a 21)) C hN inX4_readLaw_X5 hK hP 15 rfl rfl 5 (by decide) rfl nwF_X4_119 rfl dX4_readLaw_10 ?_
  refine lv_iload_n hx hb dX4_readLaw_13 rfl (lv_at hl 1 rfl) ?_
  obtain ⟨s2, hc, hB⟩ := bindP_inv hB
  refine q_govF (va_runVN (As := [.int x1]) (rest := []) C (ckX1_begin hc _) ⟨va_cnB 1 hts gX4_readLaw_X1_begin_n123 rfl rfl rfl (hN _ nwM_X4_123 rfl) (hts _ LX4_readLaw_I_X1) (by decide +kernel) ⟨Nat.le_of_ble_eq_true rfl, Nat.le_of_ble_eq_true rfl⟩, hts _ LX4_readLaw_N_X1_begin, hts _ LX4_readLaw_E_X1_begin⟩ (q_preV hK hP (ci := 1) (q0 := 21) rfl rfl rfl (q_preF hN hK hP hD)) rfl rfl hl.1 rfl (lv_room (Nat.le_of_ble_eq_true rfl)) dX4_readLaw_14 ⟨Nat.le_of_ble_eq_true rfl, Nat.le_of_ble_eq_true rfl⟩) hD hS hA (fun w1 H locs hw hP hD hS => ?_)
  subst hw
  refine lv_iconst (v := 0) hx hb dX4_readLaw_17 (by decide) ?_
  refine lv_istore_n (lv' := [(2, .int 0), (0, .ref (a 28)), (1, .int x1)]) hx hb dX4_readLaw_18 rfl hl (by decide) rfl (fun ls hl => ?_)
  exact bkX4_readLaw_19L fu _ _ hB p e s0 m below meth c A E H locs ls hP hD hS (lv_sub hl [1, 0] rfl)
theorem ckX4_readLaw {l : Launch} {dC : Nat → ClassId} {dI : Nat → Nat → Nat} {cB cI cJ cZ cS : ClassId} {a : Nat → Nat} {s' : KS} {s : KS} {x1 : Int32} (hB : kX4_readLaw s x1 = some s') : CV l yX4_readLaw wsX4_readLaw ({ frames := 28, cells := 0, slots := 0, locals := 638 }) (dC, dI) (tysA cB cI cJ cZ cS) (wK cB cI cJ cZ cS a s) [.ref (a 28), .int x1] (fun u => u = (wK cB cI cJ cZ cS a s')) :=
  CV_of (cc := cX4_readLaw) (maxL := 3) (ret := none) (by decide) rfl (Nat.le_of_ble_eq_true rfl) (bkX4_readLaw _ _ hB)
theorem LX4_readTell_12 : Cond.fieldLink RX4 12 "GuessFerry$Reader" "draft" "LGuessFerry$Sound;" ∈ wsX4_readTell := (List.mem_cons_of_mem _ (List.mem_append_left _ (List.mem_append_left _ (List.mem_append_left _ (List.mem_append_left _ (List.mem_append_left _ (List.mem_of_getElem? (i := 2) rfl)))))))
theorem LX4_readTell_31 : Cond.fieldLink RX4 31 "GuessFerry$Reader" "tokens" "LGuessFerry$Tokens;" ∈ wsX4_readTell := (List.mem_cons_of_mem _ (List.mem_append_left _ (List.mem_append_left _ (List.mem_append_left _ (List.mem_append_left _ (List.mem_append_left _ (List.mem_of_getElem? (i := 0) rfl)))))))
theorem LX4_readTell_38 : Cond.fieldLink RX4 38 "GuessFerry$Reader" "at" "I" ∈ wsX4_readTell := (List.mem_cons_of_mem _ (List.mem_append_left _ (List.mem_append_left _ (List.mem_append_left _ (List.mem_append_left _ (List.mem_append_left _ (List.mem_of_getElem? (i := 1) rfl)))))))
theorem inX4_readTell_X4 : ∀ w ∈ u_ws RX4 TX4 8, w ∈ wsX4_readTell := fun w h => (List.mem_cons_of_mem _ (List.mem_append_left _ (List.mem_append_left _ (List.mem_append_left _ (List.mem_append_right _ h)))))
theorem inX4_readTell_X5 : ∀ w ∈ u_ws RX5 TX5 10, w ∈ wsX4_readTell := fun w h => (List.mem_cons_of_mem _ (List.mem_append_left _ (List.mem_append_right _ h)))
theorem inX4_readTell_X9 : ∀ w ∈ u_ws RX9 TX9 7, w ∈ wsX4_readTell := fun w h => (List.mem_cons_of_mem _ (List.mem_append_left _ (List.mem_append_left _ (List.mem_append_right _ h))))
set_option maxHeartbeats 4000000 in
set_option maxRecDepth 100000 in
theorem bkX4_readTell_106 {l : Launch} {dC : Nat → ClassId} {dI : Nat → Nat → Nat} {cB cI cJ cZ cS : ClassId} {a : Nat → Nat} {as : List Value} {s' : KS} (s : KS) (hB : kX4_readTell_106 s = some s') : BlkV l yX4_readTell wsX4_readTell ({ frames := 29, cells := 0, slots := 0, locals := 660 }) cX4_readTell 3 none (dC, dI) (tysA cB cI cJ cZ cS) as 106 (wK cB cI cJ cZ cS a s) [(0, .ref (a 28))] [] (fun u => u = (wK cB cI cJ cZ cS a s')) := by
  intro p e s0 m below meth c A E H locs ls hP hD hS hl
  obtain ⟨C, hr, hlocks, hA, hK, hN⟩ := id E
  obtain ⟨hx, hb, hml, hown, hts⟩ := id C
  unfold kX4_readTell_106 at hB
  refine lv_aload_n hx hb dX4_readTell_106 rfl (lv_at hl 0 rfl) ?_
  refine lv_iconst (v := 1) hx hb dX4_readTell_107 (by decide) ?_
  obtain ⟨s1, hc, hB⟩ := bindP_inv hB
  refine q_govF (va_runV (As := [.int 1]) (rest := []) C (ckX4_fail hc _) (cwV 1 hts gX4_readTell_X4_fail rfl rfl rfl (by decide +kernel) ⟨Nat.le_of_ble_eq_true rfl, Nat.le_of_ble_eq_true rfl⟩) (q_preV hK hP (ci := 4) (q0 := 28) rfl rfl rfl (q_preF hN hK hP hD)) rfl rfl hl.1 rfl (lv_room (Nat.le_of_ble_eq_true rfl)) dX4_readTell_108 ⟨Nat.le_of_ble_eq_true rfl, Nat.le_of_ble_eq_true rfl⟩) hD hS hA (fun w1 H locs hw hP hD hS => ?_)
  subst hw
  exact q_vret C hr hlocks hK hP hD hS (Nat.le_of_ble_eq_true rfl) (Nat.le_of_ble_eq_true rfl) dX4_readTell_111 (by cases hB; rfl)
set_option maxHeartbeats 4000000 in
set_option maxRecDepth 100000 in
theorem bkX4_readTell {l : Launch} {dC : Nat → ClassId} {dI : Nat → Nat → Nat} {cB cI cJ cZ cS : ClassId} {a : Nat → Nat} {as : List Value} {s' : KS} (s : KS) (hB : kX4_readTell s = some s') : BlkV l yX4_readTell wsX4_readTell ({ frames := 29, cells := 0, slots := 0, locals := 660 }) cX4_readTell 3 none (dC, dI) (tysA cB cI cJ cZ cS) as 0 (wK cB cI cJ cZ cS a s) [(0, .ref (a 28))] [] (fun u => u = (wK cB cI cJ cZ cS a s')) := by
  intro p e s0 m below meth c A E H locs ls hP hD hS hl
  obtain ⟨C, hr, hlocks, hA, hK, hN⟩ := id E
  obtain ⟨hx, hb, hml, hown, hts⟩ := id C
  unfold kX4_readTell at hB
  refine lv_aload_n hx hb dX4_readTell_0 rfl (lv_at hl 0 rfl) ?_
  refine q_get (v := .ref (a 30)) C inX4_readTell_X4 hK hP 28 rfl rfl 0 (by decide) rfl LX4_readTell_31 rfl dX4_readTell_1 ?_
  refine q_getN (v := .ref (a 32)) C hN inX4_readTell_X9 hK hP 30 rfl rfl 2 (by decide) rfl nwF_X4_63 rfl dX4_readTell_4 ?_
  refine lv_aload_n hx hb dX4_readTell_7 rfl (lv_at hl 0 rfl) ?_
  refine q_get (v := .int (s.v 15)) C inX4_readTell_X4 hK hP 28 rfl rfl 3 (by decide) rfl LX4_readTell_38 rfl dX4_readTell_8 ?_
  obtain ⟨g1, hB⟩ := guard_inv hB
  refine q_iald (x := ((s.f 32) (Int32.toNatClampNeg (s.v 15)))) C hK hP 32 1 rfl rfl (vpb_in g1) dX4_readTell_11 rfl ?_
  refine lv_istore_n (lv' := [(1, .int ((s.f 32) (Int32.toNatClampNeg (s.v 15)))), (0, .ref (a 28))]) hx hb dX4_readTell_12 rfl hl (by decide) rfl (fun ls hl => ?_)
  refine lv_iload_n hx hb dX4_readTell_13 rfl (lv_at hl 0 rfl) ?_
  refine lv_sipush (v := 258) hx hb dX4_readTell_14 (by decide) ?_
  refine lv_isub hx hb dX4_readTell_17 ?_
  refine lv_istore_n (lv' := [(2, .int (((s.f 32) (Int32.toNatClampNeg (s.v 15))) - 258)), (1, .int ((s.f 32) (Int32.toNatClampNeg (s.v 15)))), (0, .ref (a 28))]) hx hb dX4_readTell_18 rfl hl (by decide) rfl (fun ls hl => ?_)
  refine lv_iload_n hx hb dX4_readTell_19 rfl (lv_at hl 1 rfl) ?_
  refine lv_sipush (v := 256) hx hb dX4_readTell_20 (by decide) ?_
  refine lv_icmp_ne (tgt := 33) hx hb dX4_readTell_23 (by decide) (fun c2 => ?_) (fun c2 => ?_)
  · have hB := if_n hB c2
    refine lv_iload_n hx hb dX4_readTell_33 rfl (lv_at hl 1 rfl) ?_
    refine lv_sipush (v := 257) hx hb dX4_readTell_34 (by decide) ?_
    refine lv_icmp_ne (tgt := 47) hx hb dX4_readTell_37 (by decide) (fun c3 => ?_) (fun c3 => ?_)
    · have hB := if_n hB c3
      refine lv_iload_n hx hb dX4_readTell_47 rfl (lv_at hl 1 rfl) ?_
      refine lv_sipush (v := 262) hx hb dX4_readTell_48 (by decide) ?_
      refine lv_icmp_ne (tgt := 84) hx hb dX4_readTell_51 (by decide) (fun c4 => ?_) (fun c4 => ?_)
      · have hB := if_n hB c4
        refine lv_iload_n hx hb dX4_readTell_84 rfl (lv_at hl 0 rfl) ?_
        refine lv_if_lt (tgt := 106) hx hb dX4_readTell_85 (by decide) (fun c5 => ?_) (fun c5 => ?_)
        · have hB := if_p hB c5
          exact bkX4_readTell_106 _ hB p e s0 m below meth c A E H locs ls hP hD hS (lv_sub hl [2] rfl)
        · have hB := if_n hB c5
          refine lv_iload_n hx hb dX4_readTell_88 rfl (lv_at hl 0 rfl) ?_
          refine lv_iconst (v := 4) hx hb dX4_readTell_89 (by decide) ?_
          refine lv_icmp_ge (tgt := 106) hx hb dX4_readTell_90 (by decide) (fun c6 => ?_) (fun c6 => ?_)
          · have hB := if_p hB c6
            exact bkX4_readTell_106 _ hB p e s0 m below meth c A E H locs ls hP hD hS (lv_sub hl [2] rfl)
          · have hB := if_n hB c6
            refine lv_aload_n hx hb dX4_readTell_93 rfl (lv_at hl 2 rfl) ?_
            refine lv_iload_n hx hb dX4_readTell_94 rfl (lv_at hl 1 rfl) ?_
            obtain ⟨s7, hc, hB⟩ := bindP_inv hB
            refine q_govF (va_runV (As := [.int ((s.f 32) (Int32.toNatClampNeg (s.v 15)))]) (rest := []) C (ckX4_take hc _) (cwV 1 hts gX4_readTell_X4_take rfl rfl rfl (by decide +kernel) ⟨Nat.le_of_ble_eq_true rfl, Nat.le_of_ble_eq_true rfl⟩) (q_preV hK hP (ci := 4) (q0 := 28) rfl rfl rfl (q_preF hN hK hP hD)) rfl rfl hl.1 rfl (lv_room (Nat.le_of_ble_eq_true rfl)) dX4_readTell_95 ⟨Nat.le_of_ble_eq_true rfl, Nat.le_of_ble_eq_true rfl⟩) hD hS hA (fun w1 H locs hw hP hD hS => ?_)
            subst hw
            refine lv_aload_n hx hb dX4_readTell_98 rfl (lv_at hl 2 rfl) ?_
            refine lv_iload_n hx hb dX4_readTell_99 rfl (lv_at hl 0 rfl) ?_
            obtain ⟨s8, hc, hB⟩ := bindP_inv hB
            refine q_govF (va_runV (As := [.int (((s.f 32) (Int32.toNatClampNeg (s.v 15))) - 258)]) (rest := []) C (ckX4_readLaw hc _) (cwV 1 hts gX4_readTell_X4_readLaw rfl rfl rfl (by decide +kernel) ⟨Nat.le_of_ble_eq_true rfl, Nat.le_of_ble_eq_true rfl⟩) (q_preV hK hP (ci := 4) (q0 := 28) rfl rfl rfl (q_preF hN hK hP hD)) rfl rfl hl.1 rfl (lv_room (Nat.le_of_ble_eq_true rfl)) dX4_readTell_100 ⟨Nat.le_of_ble_eq_true rfl, Nat.le_of_ble_eq_true rfl⟩) hD hS hA (fun w1 H locs hw hP hD hS => ?_)
            subst hw
            refine lv_goto (tgt := 111) hx hb dX4_readTell_103 (by decide) ?_
            exact q_vret C hr hlocks hK hP hD hS (Nat.le_of_ble_eq_true rfl) (Nat.le_of_ble_eq_true rfl) dX4_readTell_111 (by cases hB; rfl)
      · have hB := if_p hB c4
        refine lv_aload_n hx hb dX4_readTell_54 rfl (lv_at hl 2 rfl) ?_
        refine lv_sipush (v := 262) hx hb dX4_readTell_55 (by decide) ?_
        obtain ⟨s9, hc, hB⟩ := bindP_inv hB
        refine q_govF (va_runV (As := [.int 262]) (rest := []) C (ckX4_take hc _) (cwV 1 hts gX4_readTell_X4_take rfl rfl rfl (by decide +kernel) ⟨Nat.le_of_ble_eq_true rfl, Nat.le_of_ble_eq_true rfl⟩) (q_preV hK hP (ci := 4) (q0 := 28) rfl rfl rfl (q_preF hN hK hP hD)) rfl rfl hl.1 rfl (lv_room (Nat.le_of_ble_eq_true rfl)) dX4_readTell_58 ⟨Nat.le_of_ble_eq_true rfl, Nat.le_of_ble_eq_true rfl⟩) hD hS hA (fun w1 H locs hw hP hD hS => ?_)
        subst hw
        refine lv_aload_n hx hb dX4_readTell_61 rfl (lv_at hl 2 rfl) ?_
        refine q_get (v := .ref (a 15)) C inX4_readTell_X4 hK hP 28 rfl rfl 1 (by decide) rfl LX4_readTell_12 rfl dX4_readTell_62 ?_
        refine lv_aload_n hx hb dX4_readTell_65 rfl (lv_at hl 2 rfl) ?_
        refine lv_sipush (v := 9999) hx hb dX4_readTell_66 (by decide) ?_
        obtain ⟨q_, s10, hc, hB⟩ := bindI_inv hB
        refine q_goiF (va_runV (As := [.int 9999]) (rest := [.ref (a 15)]) C (ckX4_takeInt hc _) (cwV 1 hts gX4_readTell_X4_takeInt rfl rfl rfl (by decide +kernel) ⟨Nat.le_of_ble_eq_true rfl, Nat.le_of_ble_eq_true rfl⟩) (q_preV hK hP (ci := 4) (q0 := 28) rfl rfl rfl (q_preF hN hK hP hD)) rfl rfl hl.1 rfl (lv_room (Nat.le_of_ble_eq_true rfl)) dX4_readTell_69 ⟨Nat.le_of_ble_eq_true rfl, Nat.le_of_ble_eq_true rfl⟩) hD hS hA (fun r11 w1 H locs hw hP hD hS => ?_)
        obtain ⟨hq_, hw⟩ := hw; subst hw; subst hq_
        obtain ⟨s12, hs13, hB⟩ := letS_inv hB
        refine q_putN (ty := .int) (w2 := (wK cB cI cJ cZ cS a s12)) tyX5 tyX5_ok nmX5 C hN inX4_readTell_X5 hK hP hD hS 15 rfl rfl 9 (by decide) rfl nwF_X4_94 rfl (by decide +kernel) (rfl) rfl (Nat.le_of_ble_eq_true rfl) dX4_readTell_72 (by subst hs13; rfl) (fun H locs hP hD hS => ?_)
        refine lv_aload_n hx hb dX4_readTell_75 rfl (lv_at hl 2 rfl) ?_
        refine lv_bipush (v := 59) hx hb dX4_readTell_76 (by decide) ?_
        obtain ⟨s14, hc, hB⟩ := bindP_inv hB
        refine q_govF (va_runV (As := [.int 59]) (rest := []) C (ckX4_take hc _) (cwV 1 hts gX4_readTell_X4_take rfl rfl rfl (by decide +kernel) ⟨Nat.le_of_ble_eq_true rfl, Nat.le_of_ble_eq_true rfl⟩) (q_preV hK hP (ci := 4) (q0 := 28) rfl rfl rfl (q_preF hN hK hP hD)) rfl rfl hl.1 rfl (lv_room (Nat.le_of_ble_eq_true rfl)) dX4_readTell_78 ⟨Nat.le_of_ble_eq_true rfl, Nat.le_of_ble_eq_true rfl⟩) hD hS hA (fun w1 H locs hw hP hD hS => ?_)
        subst hw
        refine lv_goto (tgt := 111) hx hb dX4_readTell_81 (by decide) ?_
        exact q_vret C hr hlocks hK hP hD hS (Nat.le_of_ble_eq_true rfl) (Nat.le_of_ble_eq_true rfl) dX4_readTell_111 (by cases hB; rfl)
    · have hB := if_p hB c3
      refine lv_aload_n hx hb dX4_readTell_40 rfl (lv_at hl 2 rfl) ?_
      obtain ⟨s15, hc, hB⟩ := bindP_inv hB
      refine q_govF (va_runV (As := []) (rest := []) C (ckX4_readParty hc _) (cwV 0 hts gX4_readTell_X4_readParty rfl rfl rfl (by decide +kernel) ⟨Nat.le_of_ble_eq_true rfl, Nat.le_of_ble_eq_true rfl⟩) (q_preV hK hP (ci := 4) (q0 := 28) rfl rfl rfl (q_preF hN hK hP hD)) rfl rfl hl.1 rfl (lv_room (Nat.le_of_ble_eq_true rfl)) dX4_readTell_41 ⟨Nat.le_of_ble_eq_true rfl, Nat.le_of_ble_eq_true rfl⟩) hD hS hA (fun w1 H locs hw hP hD hS => ?_)
      subst hw
      refine lv_goto (tgt := 111) hx hb dX4_readTell_44 (by decide) ?_
      exact q_vret C hr hlocks hK hP hD hS (Nat.le_of_ble_eq_true rfl) (Nat.le_of_ble_eq_true rfl) dX4_readTell_111 (by cases hB; rfl)
  · have hB := if_p hB c2
    refine lv_aload_n hx hb dX4_readTell_26 rfl (lv_at hl 2 rfl) ?_
    obtain ⟨s16, hc, hB⟩ := bindP_inv hB
    refine q_govF (va_runV (As := []) (rest := []) C (ckX4_readWave hc _) (cwV 0 hts gX4_readTell_X4_readWave rfl rfl rfl (by decide +kernel) ⟨Nat.le_of_ble_eq_true rfl, Nat.le_of_ble_eq_true rfl⟩) (q_preV hK hP (ci := 4) (q0 := 28) rfl rfl rfl (q_preF hN hK hP hD)) rfl rfl hl.1 rfl (lv_room (Nat.le_of_ble_eq_true rfl)) dX4_readTell_27 ⟨Nat.le_of_ble_eq_true rfl, Nat.le_of_ble_eq_true rfl⟩) hD hS hA (fun w1 H locs hw hP hD hS => ?_)
    subst hw
    refine lv_goto (tgt := 111) hx hb dX4_readTell_30 (by decide) ?_
    exact q_vret C hr hlocks hK hP hD hS (Nat.le_of_ble_eq_true rfl) (Nat.le_of_ble_eq_true rfl) dX4_readTell_111 (by cases hB; rfl)
theorem ckX4_readTell {l : Launch} {dC : Nat → ClassId} {dI : Nat → Nat → Nat} {cB cI cJ cZ cS : ClassId} {a : Nat → Nat} {s' : KS} {s : KS} (hB : kX4_readTell s = some s') : CV l yX4_readTell wsX4_readTell ({ frames := 29, cells := 0, slots := 0, locals := 660 }) (dC, dI) (tysA cB cI cJ cZ cS) (wK cB cI cJ cZ cS a s) [.ref (a 28)] (fun u => u = (wK cB cI cJ cZ cS a s')) :=
  CV_of (cc := cX4_readTell) (maxL := 3) (ret := none) (by decide) rfl (Nat.le_of_ble_eq_true rfl) (bkX4_readTell _ hB)
theorem LX4_readTape_12 : Cond.fieldLink RX4 12 "GuessFerry$Reader" "draft" "LGuessFerry$Sound;" ∈ wsX4_readTape := (List.mem_cons_of_mem _ (List.mem_append_left _ (List.mem_append_left _ (List.mem_append_left _ (List.mem_append_left _ (List.mem_append_left _ (List.mem_append_left _ (List.mem_of_getElem? (i := 0) rfl))))))))
theorem LX4_readTape_22 : Cond.fieldLink RX4 22 "GuessFerry$Reader" "faultPlace" "I" ∈ wsX4_readTape := (List.mem_cons_of_mem _ (List.mem_append_left _ (List.mem_append_left _ (List.mem_append_left _ (List.mem_append_left _ (List.mem_append_left _ (List.mem_append_left _ (List.mem_of_getElem? (i := 3) rfl))))))))
theorem LX4_readTape_31 : Cond.fieldLink RX4 31 "GuessFerry$Reader" "tokens" "LGuessFerry$Tokens;" ∈ wsX4_readTape := (List.mem_cons_of_mem _ (List.mem_append_left _ (List.mem_append_left _ (List.mem_append_left _ (List.mem_append_left _ (List.mem_append_left _ (List.mem_append_left _ (List.mem_of_getElem? (i := 6) rfl))))))))
theorem LX4_readTape_38 : Cond.fieldLink RX4 38 "GuessFerry$Reader" "at" "I" ∈ wsX4_readTape := (List.mem_cons_of_mem _ (List.mem_append_left _ (List.mem_append_left _ (List.mem_append_left _ (List.mem_append_left _ (List.mem_append_left _ (List.mem_append_left _ (List.mem_of_getElem? (i := 1) rfl))))))))
theorem LX4_readTape_41 : Cond.fieldLink RX4 41 "GuessFerry$Reader" "fault" "I" ∈ wsX4_readTape := (List.mem_cons_of_mem _ (List.mem_append_left _ (List.mem_append_left _ (List.mem_append_left _ (List.mem_append_left _ (List.mem_append_left _ (List.mem_append_left _ (List.mem_of_getElem? (i := 2) rfl))))))))
theorem LX4_readTape_44 : Cond.fieldLink RX4 44 "GuessFerry$Reader" "laterFault" "I" ∈ wsX4_readTape := (List.mem_cons_of_mem _ (List.mem_append_left _ (List.mem_append_left _ (List.mem_append_left _ (List.mem_append_left _ (List.mem_append_left _ (List.mem_append_left _ (List.mem_of_getElem? (i := 4) rfl))))))))
theorem LX4_readTape_47 : Cond.fieldLink RX4 47 "GuessFerry$Reader" "laterPlace" "I" ∈ wsX4_readTape := (List.mem_cons_of_mem _ (List.mem_append_left _ (List.mem_append_left _ (List.mem_append_left _ (List.mem_append_left _ (List.mem_append_left _ (List.mem_append_left _ (List.mem_of_getElem? (i := 5) rfl))))))))
theorem LX4_readTape_E_X5_addUp : Cond.selects RX5 yX5_addUp yX5_addUp ∈ wsX4_readTape := (List.mem_cons_of_mem _ (List.mem_append_left _ (List.mem_append_left _ (List.mem_append_left _ (List.mem_append_left _ (List.mem_append_left _ (List.mem_append_left _ (List.mem_of_getElem? (i := 21) rfl))))))))
theorem LX4_readTape_E_X5_clear : Cond.selects RX5 yX5_clear yX5_clear ∈ wsX4_readTape := (List.mem_cons_of_mem _ (List.mem_append_left _ (List.mem_append_left _ (List.mem_append_left _ (List.mem_append_left _ (List.mem_append_left _ (List.mem_append_left _ (List.mem_of_getElem? (i := 9) rfl))))))))
theorem LX4_readTape_E_X9_split : Cond.selects RX9 yX9_split yX9_split ∈ wsX4_readTape := (List.mem_cons_of_mem _ (List.mem_append_left _ (List.mem_append_left _ (List.mem_append_left _ (List.mem_append_left _ (List.mem_append_left _ (List.mem_append_left _ (List.mem_of_getElem? (i := 12) rfl))))))))
theorem LX4_readTape_I_X5 : Cond.initialized RX5 ∈ wsX4_readTape := (List.mem_cons_of_mem _ (List.mem_append_left _ (List.mem_append_left _ (List.mem_append_left _ (List.mem_append_left _ (List.mem_append_left _ (List.mem_append_left _ (List.mem_of_getElem? (i := 8) rfl))))))))
theorem LX4_readTape_I_X9 : Cond.initialized RX9 ∈ wsX4_readTape := (List.mem_cons_of_mem _ (List.mem_append_left _ (List.mem_append_left _ (List.mem_append_left _ (List.mem_append_left _ (List.mem_append_left _ (List.mem_append_left _ (List.mem_of_getElem? (i := 11) rfl))))))))
theorem LX4_readTape_N_X5_addUp : Cond.instanceMethod yX5_addUp ∈ wsX4_readTape := (List.mem_cons_of_mem _ (List.mem_append_left _ (List.mem_append_left _ (List.mem_append_left _ (List.mem_append_left _ (List.mem_append_left _ (List.mem_append_left _ (List.mem_of_getElem? (i := 20) rfl))))))))
theorem LX4_readTape_N_X5_clear : Cond.instanceMethod yX5_clear ∈ wsX4_readTape := (List.mem_cons_of_mem _ (List.mem_append_left _ (List.mem_append_left _ (List.mem_append_left _ (List.mem_append_left _ (List.mem_append_left _ (List.mem_append_left _ (List.mem_of_getElem? (i := 7) rfl))))))))
theorem LX4_readTape_N_X9_split : Cond.instanceMethod yX9_split ∈ wsX4_readTape := (List.mem_cons_of_mem _ (List.mem_append_left _ (List.mem_append_left _ (List.mem_append_left _ (List.mem_append_left _ (List.mem_append_left _ (List.mem_append_left _ (List.mem_of_getElem? (i := 10) rfl))))))))
theorem inX4_readTape_X4 : ∀ w ∈ u_ws RX4 TX4 8, w ∈ wsX4_readTape := fun w h => (List.mem_cons_of_mem _ (List.mem_append_left _ (List.mem_append_left _ (List.mem_append_left _ (List.mem_append_left _ (List.mem_append_right _ h))))))
set_option maxHeartbeats 4000000 in
set_option maxRecDepth 100000 in
theorem bkX4_readTape_98 {l : Launch} {dC : Nat → ClassId} {dI : Nat → Nat → Nat} {cB cI cJ cZ cS : ClassId} {ak av : Nat} {a : Nat → Nat} {as : List Value} {r : Int32} {s' : KS} (s : KS) (hB : kX4_readTape_98 s = some (r, s')) : BlkIS ak av l yX4_readTape wsX4_readTape ({ frames := 30, cells := 0, slots := 0, locals := 682 }) cX4_readTape 2 (some .int) (dC, dI) (tysA cB cI cJ cZ cS) as 98 (wK cB cI cJ cZ cS a s) [(0, .ref (a 28))] [] (fun x u => x = r ∧ u = (wK cB cI cJ cZ cS a s')) := by
  intro p e s0 m below meth c A E hX H locs ls hP hD hS hl
  obtain ⟨C, hr, hlocks, hA, hK, hN⟩ := id E
  obtain ⟨hx, hb, hml, hown, hts⟩ := id C
  unfold kX4_readTape_98 at hB
  refine lv_aload_n hx hb dX4_readTape_98 rfl (lv_at hl 0 rfl) ?_
  refine q_get (v := .int (s.v 16)) C inX4_readTape_X4 hK hP 28 rfl rfl 4 (by decide) rfl LX4_readTape_41 rfl dX4_readTape_99 ?_
  refine lv_if_ne (tgt := 112) hx hb dX4_readTape_102 (by decide) (fun c1 => ?_) (fun c1 => ?_)
  · have hB := if_n hB c1
    refine lv_aload_n hx hb dX4_readTape_112 rfl (lv_at hl 0 rfl) ?_
    refine q_get (v := .int (s.v 16)) C inX4_readTape_X4 hK hP 28 rfl rfl 4 (by decide) rfl LX4_readTape_41 rfl dX4_readTape_113 ?_
    exact q_iret C hr hlocks hK hP hD hS (Nat.le_of_ble_eq_true rfl) (Nat.le_of_ble_eq_true rfl) dX4_readTape_116 (by cases hB; exact ⟨rfl, rfl⟩)
  · have hB := if_p hB c1
    refine lv_aload_n hx hb dX4_readTape_105 rfl (lv_at hl 0 rfl) ?_
    refine q_get (v := .ref (a 15)) C inX4_readTape_X4 hK hP 28 rfl rfl 1 (by decide) rfl LX4_readTape_12 rfl dX4_readTape_106 ?_
    obtain ⟨s2, hc, hB⟩ := bindP_inv hB
    refine q_govF (va_runVN (As := []) (rest := []) C (ckX5_addUp hc _) ⟨va_cnB 0 hts gX4_readTape_X5_addUp_n60 rfl rfl rfl (hN _ nwM_X4_60 rfl) (hts _ LX4_readTape_I_X5) (by decide +kernel) ⟨Nat.le_of_ble_eq_true rfl, Nat.le_of_ble_eq_true rfl⟩, hts _ LX4_readTape_N_X5_addUp, hts _ LX4_readTape_E_X5_addUp⟩ (q_preV hK hP (ci := 5) (q0 := 15) rfl rfl rfl (q_preF hN hK hP hD)) rfl rfl hl.1 rfl (lv_room (Nat.le_of_ble_eq_true rfl)) dX4_readTape_109 ⟨Nat.le_of_ble_eq_true rfl, Nat.le_of_ble_eq_true rfl⟩) hD hS hA (fun w1 H locs hw hP hD hS => ?_)
    subst hw
    refine lv_aload_n hx hb dX4_readTape_112 rfl (lv_at hl 0 rfl) ?_
    refine q_get (v := .int (s2.v 16)) C inX4_readTape_X4 hK hP 28 rfl rfl 4 (by decide) rfl LX4_readTape_41 rfl dX4_readTape_113 ?_
    exact q_iret C hr hlocks hK hP hD hS (Nat.le_of_ble_eq_true rfl) (Nat.le_of_ble_eq_true rfl) dX4_readTape_116 (by cases hB; exact ⟨rfl, rfl⟩)
set_option maxHeartbeats 4000000 in
set_option maxRecDepth 100000 in
theorem bkX4_readTape_75 {l : Launch} {dC : Nat → ClassId} {dI : Nat → Nat → Nat} {cB cI cJ cZ cS : ClassId} {ak av : Nat} {a : Nat → Nat} {as : List Value} {r : Int32} {s' : KS} (s : KS) (hB : kX4_readTape_75 s = some (r, s')) : BlkIS ak av l yX4_readTape wsX4_readTape ({ frames := 30, cells := 0, slots := 0, locals := 682 }) cX4_readTape 2 (some .int) (dC, dI) (tysA cB cI cJ cZ cS) as 75 (wK cB cI cJ cZ cS a s) [(0, .ref (a 28))] [] (fun x u => x = r ∧ u = (wK cB cI cJ cZ cS a s')) := by
  intro p e s0 m below meth c A E hX H locs ls hP hD hS hl
  obtain ⟨C, hr, hlocks, hA, hK, hN⟩ := id E
  obtain ⟨hx, hb, hml, hown, hts⟩ := id C
  unfold kX4_readTape_75 at hB
  refine lv_aload_n hx hb dX4_readTape_75 rfl (lv_at hl 0 rfl) ?_
  refine q_get (v := .int (s.v 16)) C inX4_readTape_X4 hK hP 28 rfl rfl 4 (by decide) rfl LX4_readTape_41 rfl dX4_readTape_76 ?_
  refine lv_if_ne (tgt := 98) hx hb dX4_readTape_79 (by decide) (fun c1 => ?_) (fun c1 => ?_)
  · have hB := if_n hB c1
    exact bkX4_readTape_98 _ hB p e s0 m below meth c A E hX H locs ls hP hD hS (lv_sub hl [0] rfl)
  · have hB := if_p hB c1
    refine lv_aload_n hx hb dX4_readTape_82 rfl (lv_at hl 0 rfl) ?_
    refine lv_aload_n hx hb dX4_readTape_83 rfl (lv_at hl 0 rfl) ?_
    refine q_get (v := .int (s.v 18)) C inX4_readTape_X4 hK hP 28 rfl rfl 6 (by decide) rfl LX4_readTape_44 rfl dX4_readTape_84 ?_
    obtain ⟨s2, hs3, hB⟩ := letS_inv hB
    refine q_put (ty := .int) (w2 := (wK cB cI cJ cZ cS a s2)) tyX4 tyX4_ok nmX4 C inX4_readTape_X4 hK hP hD hS 28 rfl rfl 4 (by decide) rfl LX4_readTape_41 rfl (by decide +kernel) (rfl) rfl (Nat.le_of_ble_eq_true rfl) dX4_readTape_87 (by subst hs3; rfl) (fun H locs hP hD hS => ?_)
    refine lv_aload_n hx hb dX4_readTape_90 rfl (lv_at hl 0 rfl) ?_
    refine lv_aload_n hx hb dX4_readTape_91 rfl (lv_at hl 0 rfl) ?_
    refine q_get (v := .int (s2.v 19)) C inX4_readTape_X4 hK hP 28 rfl rfl 7 (by decide) rfl LX4_readTape_47 rfl dX4_readTape_92 ?_
    obtain ⟨s4, hs5, hB⟩ := letS_inv hB
    refine q_put (ty := .int) (w2 := (wK cB cI cJ cZ cS a s4)) tyX4 tyX4_ok nmX4 C inX4_readTape_X4 hK hP hD hS 28 rfl rfl 5 (by decide) rfl LX4_readTape_22 rfl (by decide +kernel) (rfl) rfl (Nat.le_of_ble_eq_true rfl) dX4_readTape_95 (by subst hs5; rfl) (fun H locs hP hD hS => ?_)
    exact bkX4_readTape_98 _ hB p e s0 m below meth c A E hX H locs ls hP hD hS (lv_sub hl [0] rfl)
set_option maxHeartbeats 4000000 in
set_option maxRecDepth 100000 in
theorem bkX4_readTape_41 {l : Launch} {dC : Nat → ClassId} {dI : Nat → Nat → Nat} {cB cI cJ cZ cS : ClassId} {ak av : Nat} {a : Nat → Nat} {as : List Value} {r : Int32} {s' : KS} {k41 : KS → Int32 → Option (Int32 × KS)} (hk41 : ∀ (s : KS) (x1 : Int32), k41 s x1 = some (r, s') → BlkIS ak av l yX4_readTape wsX4_readTape ({ frames := 30, cells := 0, slots := 0, locals := 682 }) cX4_readTape 2 (some .int) (dC, dI) (tysA cB cI cJ cZ cS) as 41 (wK cB cI cJ cZ cS a s) [(0, .ref (a 28)), (1, .int x1)] [] (fun x u => x = r ∧ u = (wK cB cI cJ cZ cS a s'))) (s : KS) (x1 : Int32) (hB : kX4_readTape_41 k41 s x1 = some (r, s')) : BlkIS ak av l yX4_readTape wsX4_readTape ({ frames := 30, cells := 0, slots := 0, locals := 682 }) cX4_readTape 2 (some .int) (dC, dI) (tysA cB cI cJ cZ cS) as 41 (wK cB cI cJ cZ cS a s) [(0, .ref (a 28)), (1, .int x1)] [] (fun x u => x = r ∧ u = (wK cB cI cJ cZ cS a s')) := by
  intro p e s0 m below meth c A E hX H locs ls hP hD hS hl
  obtain ⟨C, hr, hlocks, hA, hK, hN⟩ := id E
  obtain ⟨hx, hb, hml, hown, hts⟩ := id C
  unfold kX4_readTape_41 at hB
  refine lv_iload_n hx hb dX4_readTape_41 rfl (lv_at hl 1 rfl) ?_
  refine lv_sipush (v := 400) hx hb dX4_readTape_42 (by decide) ?_
  refine lv_icmp_gt (tgt := 75) hx hb dX4_readTape_45 (by decide) (fun c1 => ?_) (fun c1 => ?_)
  · have hB := if_p hB c1
    exact bkX4_readTape_75 _ hB p e s0 m below meth c A E hX H locs ls hP hD hS (lv_sub hl [0] rfl)
  · have hB := if_n hB c1
    refine lv_aload_n hx hb dX4_readTape_48 rfl (lv_at hl 0 rfl) ?_
    refine q_get (v := .int (s.v 16)) C inX4_readTape_X4 hK hP 28 rfl rfl 4 (by decide) rfl LX4_readTape_41 rfl dX4_readTape_49 ?_
    refine lv_if_ne (tgt := 75) hx hb dX4_readTape_52 (by decide) (fun c2 => ?_) (fun c2 => ?_)
    · have hB := if_n hB c2
      exact bkX4_readTape_75 _ hB p e s0 m below meth c A E hX H locs ls hP hD hS (lv_sub hl [0] rfl)
    · have hB := if_p hB c2
      refine lv_aload_n hx hb dX4_readTape_55 rfl (lv_at hl 0 rfl) ?_
      refine lv_sipush (v := 302) hx hb dX4_readTape_56 (by decide) ?_
      obtain ⟨q_, s3, hc, hB⟩ := bindI_inv hB
      refine q_goiF (va_runV (As := [.int 302]) (rest := []) C (ckX4_isAt hc _) (cwV 1 hts gX4_readTape_X4_isAt rfl rfl rfl (by decide +kernel) ⟨Nat.le_of_ble_eq_true rfl, Nat.le_of_ble_eq_true rfl⟩) (q_preV hK hP (ci := 4) (q0 := 28) rfl rfl rfl (q_preF hN hK hP hD)) rfl rfl hl.1 rfl (lv_room (Nat.le_of_ble_eq_true rfl)) dX4_readTape_59 ⟨Nat.le_of_ble_eq_true rfl, Nat.le_of_ble_eq_true rfl⟩) hD hS hA (fun r4 w1 H locs hw hP hD hS => ?_)
      obtain ⟨hq_, hw⟩ := hw; subst hw; subst hq_
      refine lv_if_ne (tgt := 75) hx hb dX4_readTape_62 (by decide) (fun c5 => ?_) (fun c5 => ?_)
      · have hB := if_n hB c5
        exact bkX4_readTape_75 _ hB p e s0 m below meth c A E hX H locs ls hP hD hS (lv_sub hl [0] rfl)
      · have hB := if_p hB c5
        refine lv_aload_n hx hb dX4_readTape_65 rfl (lv_at hl 0 rfl) ?_
        obtain ⟨s6, hc, hB⟩ := bindP_inv hB
        refine q_govF (va_runV (As := []) (rest := []) C (ckX4_readTell hc _) (cwV 0 hts gX4_readTape_X4_readTell rfl rfl rfl (by decide +kernel) ⟨Nat.le_of_ble_eq_true rfl, Nat.le_of_ble_eq_true rfl⟩) (q_preV hK hP (ci := 4) (q0 := 28) rfl rfl rfl (q_preF hN hK hP hD)) rfl rfl hl.1 rfl (lv_room (Nat.le_of_ble_eq_true rfl)) dX4_readTape_66 ⟨Nat.le_of_ble_eq_true rfl, Nat.le_of_ble_eq_true rfl⟩) hD hS hA (fun w1 H locs hw hP hD hS => ?_)
        subst hw
        refine lv_iinc (v := (x1 + 1)) (lv' := [(1, .int (x1 + 1)), (0, .ref (a 28))]) hx hb dX4_readTape_69 hl (k := 1) rfl (rfl) (by decide) rfl (fun ls hl => ?_)
        refine lv_goto (tgt := 41) hx hb dX4_readTape_72 (by decide) ?_
        exact hk41 _ _ hB p e s0 m below meth c A E hX H locs ls hP hD hS (lv_sub hl [1, 0] rfl)
theorem bkX4_readTape_41L {l : Launch} {dC : Nat → ClassId} {dI : Nat → Nat → Nat} {cB cI cJ cZ cS : ClassId} {ak av : Nat} {a : Nat → Nat} {as : List Value} {r : Int32} {s' : KS} : ∀ (n : Nat) (s : KS) (x1 : Int32), kX4_readTape_41L n s x1 = some (r, s') → BlkIS ak av l yX4_readTape wsX4_readTape ({ frames := 30, cells := 0, slots := 0, locals := 682 }) cX4_readTape 2 (some .int) (dC, dI) (tysA cB cI cJ cZ cS) as 41 (wK cB cI cJ cZ cS a s) [(0, .ref (a 28)), (1, .int x1)] [] (fun x u => x = r ∧ u = (wK cB cI cJ cZ cS a s')) := by
  intro n
  induction n with
  | zero => intro s x1 hB; exact none_ne hB
  | succ n ih => intro s x1 hB; exact bkX4_readTape_41 ih _ _ hB
set_option maxHeartbeats 4000000 in
set_option maxRecDepth 100000 in
theorem bkX4_readTape {l : Launch} {dC : Nat → ClassId} {dI : Nat → Nat → Nat} {cB cI cJ cZ cS : ClassId} {ak av : Nat} {a : Nat → Nat} {as : List Value} {r : Int32} {s' : KS} (s : KS) (hB : kX4_readTape s = some (r, s')) : BlkIS ak av l yX4_readTape wsX4_readTape ({ frames := 30, cells := 0, slots := 0, locals := 682 }) cX4_readTape 2 (some .int) (dC, dI) (tysA cB cI cJ cZ cS) as 0 (wK cB cI cJ cZ cS a s) [(0, .ref (a 28))] [] (fun x u => x = r ∧ u = (wK cB cI cJ cZ cS a s')) := by
  intro p e s0 m below meth c A E hX H locs ls hP hD hS hl
  obtain ⟨C, hr, hlocks, hA, hK, hN⟩ := id E
  obtain ⟨hx, hb, hml, hown, hts⟩ := id C
  unfold kX4_readTape at hB
  refine lv_aload_n hx hb dX4_readTape_0 rfl (lv_at hl 0 rfl) ?_
  refine q_get (v := .ref (a 15)) C inX4_readTape_X4 hK hP 28 rfl rfl 1 (by decide) rfl LX4_readTape_12 rfl dX4_readTape_1 ?_
  obtain ⟨s1, hc, hB⟩ := bindP_inv hB
  refine q_govF (va_runVN (As := []) (rest := []) C (ckX5_clear hc _) ⟨va_cnB 0 hts gX4_readTape_X5_clear_n35 rfl rfl rfl (hN _ nwM_X4_35 rfl) (hts _ LX4_readTape_I_X5) (by decide +kernel) ⟨Nat.le_of_ble_eq_true rfl, Nat.le_of_ble_eq_true rfl⟩, hts _ LX4_readTape_N_X5_clear, hts _ LX4_readTape_E_X5_clear⟩ (q_preV hK hP (ci := 5) (q0 := 15) rfl rfl rfl (q_preF hN hK hP hD)) rfl rfl hl.1 rfl (lv_room (Nat.le_of_ble_eq_true rfl)) dX4_readTape_4 ⟨Nat.le_of_ble_eq_true rfl, Nat.le_of_ble_eq_true rfl⟩) hD hS hA (fun w1 H locs hw hP hD hS => ?_)
  subst hw
  refine lv_aload_n hx hb dX4_readTape_7 rfl (lv_at hl 0 rfl) ?_
  refine lv_iconst (v := 0) hx hb dX4_readTape_8 (by decide) ?_
  obtain ⟨s2, hs3, hB⟩ := letS_inv hB
  refine q_put (ty := .int) (w2 := (wK cB cI cJ cZ cS a s2)) tyX4 tyX4_ok nmX4 C inX4_readTape_X4 hK hP hD hS 28 rfl rfl 3 (by decide) rfl LX4_readTape_38 rfl (by decide +kernel) (rfl) rfl (Nat.le_of_ble_eq_true rfl) dX4_readTape_9 (by subst hs3; rfl) (fun H locs hP hD hS => ?_)
  refine lv_aload_n hx hb dX4_readTape_12 rfl (lv_at hl 0 rfl) ?_
  refine lv_iconst (v := 0) hx hb dX4_readTape_13 (by decide) ?_
  obtain ⟨s4, hs5, hB⟩ := letS_inv hB
  refine q_put (ty := .int) (w2 := (wK cB cI cJ cZ cS a s4)) tyX4 tyX4_ok nmX4 C inX4_readTape_X4 hK hP hD hS 28 rfl rfl 4 (by decide) rfl LX4_readTape_41 rfl (by decide +kernel) (rfl) rfl (Nat.le_of_ble_eq_true rfl) dX4_readTape_14 (by subst hs5; rfl) (fun H locs hP hD hS => ?_)
  refine lv_aload_n hx hb dX4_readTape_17 rfl (lv_at hl 0 rfl) ?_
  refine lv_iconst (v := (-1)) hx hb dX4_readTape_18 (by decide) ?_
  obtain ⟨s6, hs7, hB⟩ := letS_inv hB
  refine q_put (ty := .int) (w2 := (wK cB cI cJ cZ cS a s6)) tyX4 tyX4_ok nmX4 C inX4_readTape_X4 hK hP hD hS 28 rfl rfl 5 (by decide) rfl LX4_readTape_22 rfl (by decide +kernel) (rfl) rfl (Nat.le_of_ble_eq_true rfl) dX4_readTape_19 (by subst hs7; rfl) (fun H locs hP hD hS => ?_)
  refine lv_aload_n hx hb dX4_readTape_22 rfl (lv_at hl 0 rfl) ?_
  refine lv_iconst (v := 0) hx hb dX4_readTape_23 (by decide) ?_
  obtain ⟨s8, hs9, hB⟩ := letS_inv hB
  refine q_put (ty := .int) (w2 := (wK cB cI cJ cZ cS a s8)) tyX4 tyX4_ok nmX4 C inX4_readTape_X4 hK hP hD hS 28 rfl rfl 6 (by decide) rfl LX4_readTape_44 rfl (by decide +kernel) (rfl) rfl (Nat.le_of_ble_eq_true rfl) dX4_readTape_24 (by subst hs9; rfl) (fun H locs hP hD hS => ?_)
  refine lv_aload_n hx hb dX4_readTape_27 rfl (lv_at hl 0 rfl) ?_
  refine lv_iconst (v := (-1)) hx hb dX4_readTape_28 (by decide) ?_
  obtain ⟨s10, hs11, hB⟩ := letS_inv hB
  refine q_put (ty := .int) (w2 := (wK cB cI cJ cZ cS a s10)) tyX4 tyX4_ok nmX4 C inX4_readTape_X4 hK hP hD hS 28 rfl rfl 7 (by decide) rfl LX4_readTape_47 rfl (by decide +kernel) (rfl) rfl (Nat.le_of_ble_eq_true rfl) dX4_readTape_29 (by subst hs11; rfl) (fun H locs hP hD hS => ?_)
  refine lv_aload_n hx hb dX4_readTape_32 rfl (lv_at hl 0 rfl) ?_
  refine q_get (v := .ref (a 30)) C inX4_readTape_X4 hK hP 28 rfl rfl 0 (by decide) rfl LX4_readTape_31 rfl dX4_readTape_33 ?_
  obtain ⟨s12, hc, hB⟩ := bindP_inv hB
  refine q_govF (va_runVN (As := []) (rest := []) C (ckX9_split hc _) ⟨va_cnB 0 hts gX4_readTape_X9_split_n50 rfl rfl rfl (hN _ nwM_X4_50 rfl) (hts _ LX4_readTape_I_X9) (by decide +kernel) ⟨Nat.le_of_ble_eq_true rfl, Nat.le_of_ble_eq_true rfl⟩, hts _ LX4_readTape_N_X9_split, hts _ LX4_readTape_E_X9_split⟩ (q_preV hK hP (ci := 9) (q0 := 30) rfl rfl rfl (q_preSF hN hK hP hD hS hA hX)) rfl rfl hl.1 rfl (lv_room (Nat.le_of_ble_eq_true rfl)) dX4_readTape_36 ⟨Nat.le_of_ble_eq_true rfl, Nat.le_of_ble_eq_true rfl⟩) hD hS hA (fun w1 H locs hw hP hD hS => ?_)
  subst hw
  refine lv_iconst (v := 0) hx hb dX4_readTape_39 (by decide) ?_
  refine lv_istore_n (lv' := [(1, .int 0), (0, .ref (a 28))]) hx hb dX4_readTape_40 rfl hl (by decide) rfl (fun ls hl => ?_)
  exact bkX4_readTape_41L fu _ _ hB p e s0 m below meth c A E hX H locs ls hP hD hS (lv_sub hl [1, 0] rfl)
theorem ckX4_readTape {l : Launch} {dC : Nat → ClassId} {dI : Nat → Nat → Nat} {cB cI cJ cZ cS : ClassId} {ak av : Nat} {a : Nat → Nat} {r : Int32} {s' : KS} {s : KS} (hB : kX4_readTape s = some (r, s')) : CIS ak av l yX4_readTape wsX4_readTape ({ frames := 30, cells := 0, slots := 0, locals := 682 }) (dC, dI) (tysA cB cI cJ cZ cS) (wK cB cI cJ cZ cS a s) [.ref (a 28)] (fun x u => x = r ∧ u = (wK cB cI cJ cZ cS a s')) :=
  CIS_of (cc := cX4_readTape) (maxL := 2) (ret := (some .int)) (by decide) rfl (Nat.le_of_ble_eq_true rfl) (bkX4_readTape _ hB)
theorem LX10_read_10 : Cond.fieldLink RX10 10 "GuessFerry" "tape" "LGuessFerry$Tape;" ∈ wsX10_read := (List.mem_cons_of_mem _ (List.mem_append_left _ (List.mem_append_left _ (List.mem_append_left _ (List.mem_append_left _ (List.mem_append_left _ (List.mem_append_left _ (List.mem_append_left _ (List.mem_append_left _ (List.mem_append_left _ (List.mem_append_left _ (List.mem_of_getElem? (i := 1) rfl))))))))))))
theorem LX10_read_19 : Cond.fieldLink RX10 19 "GuessFerry" "sound" "LGuessFerry$Sound;" ∈ wsX10_read := (List.mem_cons_of_mem _ (List.mem_append_left _ (List.mem_append_left _ (List.mem_append_left _ (List.mem_append_left _ (List.mem_append_left _ (List.mem_append_left _ (List.mem_append_left _ (List.mem_append_left _ (List.mem_append_left _ (List.mem_append_left _ (List.mem_of_getElem? (i := 2) rfl))))))))))))
theorem LX10_read_28 : Cond.fieldLink RX10 28 "GuessFerry" "reader" "LGuessFerry$Reader;" ∈ wsX10_read := (List.mem_cons_of_mem _ (List.mem_append_left _ (List.mem_append_left _ (List.mem_append_left _ (List.mem_append_left _ (List.mem_append_left _ (List.mem_append_left _ (List.mem_append_left _ (List.mem_append_left _ (List.mem_append_left _ (List.mem_append_left _ (List.mem_of_getElem? (i := 0) rfl))))))))))))
theorem LX10_read_35 : Cond.fieldLink RX10 35 "GuessFerry" "now" "LGuessFerry$Standing;" ∈ wsX10_read := (List.mem_cons_of_mem _ (List.mem_append_left _ (List.mem_append_left _ (List.mem_append_left _ (List.mem_append_left _ (List.mem_append_left _ (List.mem_append_left _ (List.mem_append_left _ (List.mem_append_left _ (List.mem_append_left _ (List.mem_append_left _ (List.mem_of_getElem? (i := 3) rfl))))))))))))
theorem LX10_read_45 : Cond.fieldLink RX10 45 "GuessFerry" "past" "LGuessFerry$Past;" ∈ wsX10_read := (List.mem_cons_of_mem _ (List.mem_append_left _ (List.mem_append_left _ (List.mem_append_left _ (List.mem_append_left _ (List.mem_append_left _ (List.mem_append_left _ (List.mem_append_left _ (List.mem_append_left _ (List.mem_append_left _ (List.mem_append_left _ (List.mem_of_getElem? (i := 4) rfl))))))))))))
theorem LX10_read_70 : Cond.fieldLink RX10 70 "GuessFerry" "tellers" "LGuessFerry$Tellers;" ∈ wsX10_read := (List.mem_cons_of_mem _ (List.mem_append_left _ (List.mem_append_left _ (List.mem_append_left _ (List.mem_append_left _ (List.mem_append_left _ (List.mem_append_left _ (List.mem_append_left _ (List.mem_append_left _ (List.mem_append_left _ (List.mem_append_left _ (List.mem_of_getElem? (i := 5) rfl))))))))))))
theorem LX10_read_E_X3_forgetAll : Cond.selects RX3 yX3_forgetAll yX3_forgetAll ∈ wsX10_read := (List.mem_cons_of_mem _ (List.mem_append_left _ (List.mem_append_left _ (List.mem_append_left _ (List.mem_append_left _ (List.mem_append_left _ (List.mem_append_left _ (List.mem_append_left _ (List.mem_append_left _ (List.mem_append_left _ (List.mem_append_left _ (List.mem_of_getElem? (i := 17) rfl))))))))))))
theorem LX10_read_E_X4_readTape : Cond.selects RX4 yX4_readTape yX4_readTape ∈ wsX10_read := (List.mem_cons_of_mem _ (List.mem_append_left _ (List.mem_append_left _ (List.mem_append_left _ (List.mem_append_left _ (List.mem_append_left _ (List.mem_append_left _ (List.mem_append_left _ (List.mem_append_left _ (List.mem_append_left _ (List.mem_append_left _ (List.mem_of_getElem? (i := 8) rfl))))))))))))
theorem LX10_read_E_X5_copyFrom : Cond.selects RX5 yX5_copyFrom yX5_copyFrom ∈ wsX10_read := (List.mem_cons_of_mem _ (List.mem_append_left _ (List.mem_append_left _ (List.mem_append_left _ (List.mem_append_left _ (List.mem_append_left _ (List.mem_append_left _ (List.mem_append_left _ (List.mem_append_left _ (List.mem_append_left _ (List.mem_append_left _ (List.mem_of_getElem? (i := 11) rfl))))))))))))
theorem LX10_read_E_X6_startOver : Cond.selects RX6 yX6_startOver yX6_startOver ∈ wsX10_read := (List.mem_cons_of_mem _ (List.mem_append_left _ (List.mem_append_left _ (List.mem_append_left _ (List.mem_append_left _ (List.mem_append_left _ (List.mem_append_left _ (List.mem_append_left _ (List.mem_append_left _ (List.mem_append_left _ (List.mem_append_left _ (List.mem_of_getElem? (i := 14) rfl))))))))))))
theorem LX10_read_I_X3 : Cond.initialized RX3 ∈ wsX10_read := (List.mem_cons_of_mem _ (List.mem_append_left _ (List.mem_append_left _ (List.mem_append_left _ (List.mem_append_left _ (List.mem_append_left _ (List.mem_append_left _ (List.mem_append_left _ (List.mem_append_left _ (List.mem_append_left _ (List.mem_append_left _ (List.mem_of_getElem? (i := 16) rfl))))))))))))
theorem LX10_read_I_X4 : Cond.initialized RX4 ∈ wsX10_read := (List.mem_cons_of_mem _ (List.mem_append_left _ (List.mem_append_left _ (List.mem_append_left _ (List.mem_append_left _ (List.mem_append_left _ (List.mem_append_left _ (List.mem_append_left _ (List.mem_append_left _ (List.mem_append_left _ (List.mem_append_left _ (List.mem_of_getElem? (i := 7) rfl))))))))))))
theorem LX10_read_I_X5 : Cond.initialized RX5 ∈ wsX10_read := (List.mem_cons_of_mem _ (List.mem_append_left _ (List.mem_append_left _ (List.mem_append_left _ (List.mem_append_left _ (List.mem_append_left _ (List.mem_append_left _ (List.mem_append_left _ (List.mem_append_left _ (List.mem_append_left _ (List.mem_append_left _ (List.mem_of_getElem? (i := 9) rfl))))))))))))
theorem LX10_read_I_X6 : Cond.initialized RX6 ∈ wsX10_read := (List.mem_cons_of_mem _ (List.mem_append_left _ (List.mem_append_left _ (List.mem_append_left _ (List.mem_append_left _ (List.mem_append_left _ (List.mem_append_left _ (List.mem_append_left _ (List.mem_append_left _ (List.mem_append_left _ (List.mem_append_left _ (List.mem_of_getElem? (i := 13) rfl))))))))))))
theorem LX10_read_N_X3_forgetAll : Cond.instanceMethod yX3_forgetAll ∈ wsX10_read := (List.mem_cons_of_mem _ (List.mem_append_left _ (List.mem_append_left _ (List.mem_append_left _ (List.mem_append_left _ (List.mem_append_left _ (List.mem_append_left _ (List.mem_append_left _ (List.mem_append_left _ (List.mem_append_left _ (List.mem_append_left _ (List.mem_of_getElem? (i := 15) rfl))))))))))))
theorem LX10_read_N_X4_readTape : Cond.instanceMethod yX4_readTape ∈ wsX10_read := (List.mem_cons_of_mem _ (List.mem_append_left _ (List.mem_append_left _ (List.mem_append_left _ (List.mem_append_left _ (List.mem_append_left _ (List.mem_append_left _ (List.mem_append_left _ (List.mem_append_left _ (List.mem_append_left _ (List.mem_append_left _ (List.mem_of_getElem? (i := 6) rfl))))))))))))
theorem LX10_read_N_X5_copyFrom : Cond.instanceMethod yX5_copyFrom ∈ wsX10_read := (List.mem_cons_of_mem _ (List.mem_append_left _ (List.mem_append_left _ (List.mem_append_left _ (List.mem_append_left _ (List.mem_append_left _ (List.mem_append_left _ (List.mem_append_left _ (List.mem_append_left _ (List.mem_append_left _ (List.mem_append_left _ (List.mem_of_getElem? (i := 10) rfl))))))))))))
theorem LX10_read_N_X6_startOver : Cond.instanceMethod yX6_startOver ∈ wsX10_read := (List.mem_cons_of_mem _ (List.mem_append_left _ (List.mem_append_left _ (List.mem_append_left _ (List.mem_append_left _ (List.mem_append_left _ (List.mem_append_left _ (List.mem_append_left _ (List.mem_append_left _ (List.mem_append_left _ (List.mem_append_left _ (List.mem_of_getElem? (i := 12) rfl))))))))))))
theorem inX10_read_X10 : ∀ w ∈ u_ws RX10 TX10 9, w ∈ wsX10_read := fun w h => (List.mem_cons_of_mem _ (List.mem_append_left _ (List.mem_append_left _ (List.mem_append_left _ (List.mem_append_left _ (List.mem_append_left _ (List.mem_append_left _ (List.mem_append_left _ (List.mem_append_left _ (List.mem_append_right _ h))))))))))
theorem inX10_read_X4 : ∀ w ∈ u_ws RX4 TX4 8, w ∈ wsX10_read := fun w h => (List.mem_cons_of_mem _ (List.mem_append_left _ (List.mem_append_left _ (List.mem_append_left _ (List.mem_append_left _ (List.mem_append_left _ (List.mem_append_left _ (List.mem_append_right _ h))))))))
theorem inX10_read_X7 : ∀ w ∈ u_ws RX7 TX7 2, w ∈ wsX10_read := fun w h => (List.mem_cons_of_mem _ (List.mem_append_left _ (List.mem_append_left _ (List.mem_append_left _ (List.mem_append_left _ (List.mem_append_left _ (List.mem_append_left _ (List.mem_append_left _ (List.mem_append_right _ h)))))))))
theorem inX10_read_X8 : ∀ w ∈ u_ws RX8 TX8 8, w ∈ wsX10_read := fun w h => (List.mem_cons_of_mem _ (List.mem_append_left _ (List.mem_append_left _ (List.mem_append_left _ (List.mem_append_left _ (List.mem_append_left _ (List.mem_append_right _ h)))))))
set_option maxHeartbeats 4000000 in
set_option maxRecDepth 100000 in
theorem bkX10_read {l : Launch} {dC : Nat → ClassId} {dI : Nat → Nat → Nat} {cB cI cJ cZ cS : ClassId} {ak av : Nat} {a b b2 c0 : Nat → Nat} {rg sl : Nat → Option Nat} {as : List Value} {r : Int32} {s' : XS} (s : XS) (hB : kX10_read s = some (r, s')) : BlkIS ak av l yX10_read wsX10_read ({ frames := 31, cells := 0, slots := 0, locals := 703 }) cX10_read 2 (some .int) (dC, dI) (tysA cB cI cJ cZ cS) as 0 (wX cB cI cJ cZ cS a b b2 c0 rg sl s) [(0, .ref (c0 0))] [] (fun x u => x = r ∧ u = (wX cB cI cJ cZ cS a b b2 c0 rg sl s')) := by
  intro p e s0 m below meth c A E hX H locs ls hP hD hS hl
  obtain ⟨C, hr, hlocks, hA, hK, hN⟩ := id E
  obtain ⟨hx, hb, hml, hown, hts⟩ := id C
  unfold kX10_read at hB
  refine lv_aload_n hx hb dX10_read_0 rfl (lv_at hl 0 rfl) ?_
  refine q_get (v := .ref (a 28)) C inX10_read_X10 hK hP 0 rfl rfl 2 (by decide) rfl LX10_read_28 rfl dX10_read_1 ?_
  obtain ⟨q_, s1, hc, hB⟩ := bindI_inv hB
  refine q_goi (wr := ((wG cZ cS a b b2 c0 rg sl s.g) ++ (wD cI b2 s.t) ++ (wD cI b s.n))) (va_runVN (As := []) (rest := []) C (ckX4_readTape hc _) ⟨va_cnB 0 hts gX10_read_X4_readTape_n89 rfl rfl rfl (hN _ nwM_X10_89 rfl) (hts _ LX10_read_I_X4) (by decide +kernel) ⟨Nat.le_of_ble_eq_true rfl, Nat.le_of_ble_eq_true rfl⟩, hts _ LX10_read_N_X4_readTape, hts _ LX10_read_E_X4_readTape⟩ (q_preV hK hP (ci := 4) (q0 := 45) rfl rfl rfl (q_preS hN hK hP hD hS hA hX [17, 18, 19, 20, 21, 22, 23, 24, 25, 26, 27, 28, 29, 30, 31, 32, 33, 34, 35, 36, 37, 38, 39, 40, 41, 42, 43, 44, 45, 46, 47, 48, 49, 50, 51, 52, 53, 54, 55, 56, 57, 58, 59, 60, 61, 62, 63] rfl (by decide))) rfl rfl hl.1 rfl (lv_room (Nat.le_of_ble_eq_true rfl)) dX10_read_4 ⟨Nat.le_of_ble_eq_true rfl, Nat.le_of_ble_eq_true rfl⟩) hP hD hS hA [17, 18, 19, 20, 21, 22, 23, 24, 25, 26, 27, 28, 29, 30, 31, 32, 33, 34, 35, 36, 37, 38, 39, 40, 41, 42, 43, 44, 45, 46, 47, 48, 49, 50, 51, 52, 53, 54, 55, 56, 57, 58, 59, 60, 61, 62, 63] [0, 1, 2, 3, 4, 5, 6, 7, 8, 9, 10, 11, 12, 13, 14, 15, 16] rfl rfl (by decide) (by decide) (fun r2 w1 H locs hw hP hD hS => ?_)
  obtain ⟨hq_, hw⟩ := hw; subst hw; subst hq_
  obtain ⟨s3, hs4, hB⟩ := letS_inv hB
  have hP : va_P (dC, dI) vwCl (wX cB cI cJ cZ cS a b b2 c0 rg sl s3) H := by subst hs4; exact hP
  have hD : va_D A (wX cB cI cJ cZ cS a b b2 c0 rg sl s3) := by subst hs4; exact hD
  refine lv_istore_n (lv' := [(1, .int r2), (0, .ref (c0 0))]) hx hb dX10_read_7 rfl hl (by decide) rfl (fun ls hl => ?_)
  refine lv_aload_n hx hb dX10_read_8 rfl (lv_at hl 1 rfl) ?_
  refine q_get (v := .ref (a 0)) C inX10_read_X10 hK hP 0 rfl rfl 0 (by decide) rfl LX10_read_10 rfl dX10_read_9 ?_
  refine lv_iconst (v := 0) hx hb dX10_read_12 (by decide) ?_
  obtain ⟨s5, hs6, hB⟩ := letS_inv hB
  refine q_putN (ty := .int) (w2 := (wX cB cI cJ cZ cS a b b2 c0 rg sl s5)) tyX7 tyX7_ok nmX7 C hN inX10_read_X7 hK hP hD hS 17 rfl rfl 1 (by decide) rfl nwF_X10_85 rfl (by decide +kernel) (rfl) rfl (Nat.le_of_ble_eq_true rfl) dX10_read_13 (by subst hs6; rfl) (fun H locs hP hD hS => ?_)
  refine lv_iload_n hx hb dX10_read_16 rfl (lv_at hl 0 rfl) ?_
  refine lv_if_ne (tgt := 56) hx hb dX10_read_17 (by decide) (fun c7 => ?_) (fun c7 => ?_)
  · have hB := if_n hB c7
    refine lv_iload_n hx hb dX10_read_56 rfl (lv_at hl 0 rfl) ?_
    exact q_iret C hr hlocks hK hP hD hS (Nat.le_of_ble_eq_true rfl) (Nat.le_of_ble_eq_true rfl) dX10_read_57 (by cases hB; exact ⟨rfl, rfl⟩)
  · have hB := if_p hB c7
    refine lv_aload_n hx hb dX10_read_20 rfl (lv_at hl 1 rfl) ?_
    refine q_get (v := .ref (a 2)) C inX10_read_X10 hK hP 0 rfl rfl 1 (by decide) rfl LX10_read_19 rfl dX10_read_21 ?_
    refine lv_aload_n hx hb dX10_read_24 rfl (lv_at hl 1 rfl) ?_
    refine q_get (v := .ref (a 28)) C inX10_read_X10 hK hP 0 rfl rfl 2 (by decide) rfl LX10_read_28 rfl dX10_read_25 ?_
    refine q_getN (v := .ref (a 15)) C hN inX10_read_X4 hK hP 45 rfl rfl 1 (by decide) rfl nwF_X10_93 rfl dX10_read_28 ?_
    obtain ⟨s8, hc, hB⟩ := bindP_inv hB
    refine q_gov (wr := ((wG cZ cS a b b2 c0 rg sl s5.g) ++ (wD cI b2 s5.t) ++ (wD cI b s5.n))) (va_runVN (As := [.ref (a 15)]) (rest := []) C (ckX5_copyFrom hc _) ⟨va_cnB 1 hts gX10_read_X5_copyFrom_n96 rfl rfl rfl (hN _ nwM_X10_96 rfl) (hts _ LX10_read_I_X5) (by decide +kernel) ⟨Nat.le_of_ble_eq_true rfl, Nat.le_of_ble_eq_true rfl⟩, hts _ LX10_read_N_X5_copyFrom, hts _ LX10_read_E_X5_copyFrom⟩ (q_preV hK hP (ci := 5) (q0 := 19) rfl rfl rfl (q_pre hN hK hP hD [17, 18, 19, 20, 21, 22, 23, 24, 25, 26, 27, 28, 29, 30, 31, 32, 33, 34, 35, 36, 37, 38, 39, 40, 41, 42, 43, 44, 45, 46, 47, 48, 49, 50, 51, 52, 53, 54, 55, 56, 57, 58, 59, 60, 61, 62, 63] rfl (by decide))) rfl rfl hl.1 rfl (lv_room (Nat.le_of_ble_eq_true rfl)) dX10_read_31 ⟨Nat.le_of_ble_eq_true rfl, Nat.le_of_ble_eq_true rfl⟩) hP hD hS hA [17, 18, 19, 20, 21, 22, 23, 24, 25, 26, 27, 28, 29, 30, 31, 32, 33, 34, 35, 36, 37, 38, 39, 40, 41, 42, 43, 44, 45, 46, 47, 48, 49, 50, 51, 52, 53, 54, 55, 56, 57, 58, 59, 60, 61, 62, 63] [0, 1, 2, 3, 4, 5, 6, 7, 8, 9, 10, 11, 12, 13, 14, 15, 16] rfl rfl (by decide) (by decide) (fun w1 H locs hw hP hD hS => ?_)
    subst hw
    obtain ⟨s9, hs10, hB⟩ := letS_inv hB
    have hP : va_P (dC, dI) vwCl (wX cB cI cJ cZ cS a b b2 c0 rg sl s9) H := by subst hs10; exact hP
    have hD : va_D A (wX cB cI cJ cZ cS a b b2 c0 rg sl s9) := by subst hs10; exact hD
    refine lv_aload_n hx hb dX10_read_34 rfl (lv_at hl 1 rfl) ?_
    refine q_get (v := .ref (b 0)) C inX10_read_X10 hK hP 0 rfl rfl 3 (by decide) rfl LX10_read_35 rfl dX10_read_35 ?_
    obtain ⟨s11, hc, hB⟩ := bindP_inv hB
    refine q_gov (wr := ((wG cZ cS a b b2 c0 rg sl s9.g) ++ (wD cI b2 s9.t) ++ (wK cB cI cJ cZ cS a s9.k))) (va_runVN (As := []) (rest := []) C (ckX6_startOver hc _) ⟨va_cnB 0 hts gX10_read_X6_startOver_n74 rfl rfl rfl (hN _ nwM_X10_74 rfl) (hts _ LX10_read_I_X6) (by decide +kernel) ⟨Nat.le_of_ble_eq_true rfl, Nat.le_of_ble_eq_true rfl⟩, hts _ LX10_read_N_X6_startOver, hts _ LX10_read_E_X6_startOver⟩ (q_preV hK hP (ci := 6) (q0 := 11) rfl rfl rfl (q_pre hN hK hP hD [11, 12, 13, 14, 15, 16] rfl (by decide))) rfl rfl hl.1 rfl (lv_room (Nat.le_of_ble_eq_true rfl)) dX10_read_38 ⟨Nat.le_of_ble_eq_true rfl, Nat.le_of_ble_eq_true rfl⟩) hP hD hS hA [11, 12, 13, 14, 15, 16] [0, 1, 2, 3, 4, 5, 6, 7, 8, 9, 10, 17, 18, 19, 20, 21, 22, 23, 24, 25, 26, 27, 28, 29, 30, 31, 32, 33, 34, 35, 36, 37, 38, 39, 40, 41, 42, 43, 44, 45, 46, 47, 48, 49, 50, 51, 52, 53, 54, 55, 56, 57, 58, 59, 60, 61, 62, 63] rfl rfl (by decide) (by decide) (fun w1 H locs hw hP hD hS => ?_)
    subst hw
    obtain ⟨s12, hs13, hB⟩ := letS_inv hB
    have hP : va_P (dC, dI) vwCl (wX cB cI cJ cZ cS a b b2 c0 rg sl s12) H := by subst hs13; exact hP.sub [0, 1, 2, 3, 4, 5, 6, 7, 8, 9, 10, 58, 59, 60, 61, 62, 63, 11, 12, 13, 14, 15, 16, 17, 18, 19, 20, 21, 22, 23, 24, 25, 26, 27, 28, 29, 30, 31, 32, 33, 34, 35, 36, 37, 38, 39, 40, 41, 42, 43, 44, 45, 46, 47, 48, 49, 50, 51, 52, 53, 54, 55, 56, 57] rfl
    have hD : va_D A (wX cB cI cJ cZ cS a b b2 c0 rg sl s12) := by subst hs13; exact hD.sub [0, 1, 2, 3, 4, 5, 6, 7, 8, 9, 10, 58, 59, 60, 61, 62, 63, 11, 12, 13, 14, 15, 16, 17, 18, 19, 20, 21, 22, 23, 24, 25, 26, 27, 28, 29, 30, 31, 32, 33, 34, 35, 36, 37, 38, 39, 40, 41, 42, 43, 44, 45, 46, 47, 48, 49, 50, 51, 52, 53, 54, 55, 56, 57] (by decide) rfl
    refine lv_aload_n hx hb dX10_read_41 rfl (lv_at hl 1 rfl) ?_
    refine q_get (v := .ref (c0 1)) C inX10_read_X10 hK hP 0 rfl rfl 5 (by decide) rfl LX10_read_45 rfl dX10_read_42 ?_
    obtain ⟨s14, hc, hB⟩ := bindP_inv hB
    refine q_gov (wr := ((wD cI b2 s12.t) ++ (wD cI b s12.n) ++ (wK cB cI cJ cZ cS a s12.k))) (va_runVN (As := []) (rest := []) C (ckX3_forgetAll hc _) ⟨va_cnB 0 hts gX10_read_X3_forgetAll_n99 rfl rfl rfl (hN _ nwM_X10_99 rfl) (hts _ LX10_read_I_X3) (by decide +kernel) ⟨Nat.le_of_ble_eq_true rfl, Nat.le_of_ble_eq_true rfl⟩, hts _ LX10_read_N_X3_forgetAll, hts _ LX10_read_E_X3_forgetAll⟩ (q_preV hK hP (ci := 3) (q0 := 1) rfl rfl rfl (q_pre hN hK hP hD [0, 1, 2, 3, 4] rfl (by decide))) rfl rfl hl.1 rfl (lv_room (Nat.le_of_ble_eq_true rfl)) dX10_read_45 ⟨Nat.le_of_ble_eq_true rfl, Nat.le_of_ble_eq_true rfl⟩) hP hD hS hA [0, 1, 2, 3, 4] [5, 6, 7, 8, 9, 10, 11, 12, 13, 14, 15, 16, 17, 18, 19, 20, 21, 22, 23, 24, 25, 26, 27, 28, 29, 30, 31, 32, 33, 34, 35, 36, 37, 38, 39, 40, 41, 42, 43, 44, 45, 46, 47, 48, 49, 50, 51, 52, 53, 54, 55, 56, 57, 58, 59, 60, 61, 62, 63] rfl rfl (by decide) (by decide) (fun w1 H locs hw hP hD hS => ?_)
    subst hw
    obtain ⟨s15, hs16, hB⟩ := letS_inv hB
    have hP : va_P (dC, dI) vwCl (wX cB cI cJ cZ cS a b b2 c0 rg sl s15) H := by subst hs16; exact hP.sub [59, 60, 61, 62, 63, 0, 1, 2, 3, 4, 5, 6, 7, 8, 9, 10, 11, 12, 13, 14, 15, 16, 17, 18, 19, 20, 21, 22, 23, 24, 25, 26, 27, 28, 29, 30, 31, 32, 33, 34, 35, 36, 37, 38, 39, 40, 41, 42, 43, 44, 45, 46, 47, 48, 49, 50, 51, 52, 53, 54, 55, 56, 57, 58] rfl
    have hD : va_D A (wX cB cI cJ cZ cS a b b2 c0 rg sl s15) := by subst hs16; exact hD.sub [59, 60, 61, 62, 63, 0, 1, 2, 3, 4, 5, 6, 7, 8, 9, 10, 11, 12, 13, 14, 15, 16, 17, 18, 19, 20, 21, 22, 23, 24, 25, 26, 27, 28, 29, 30, 31, 32, 33, 34, 35, 36, 37, 38, 39, 40, 41, 42, 43, 44, 45, 46, 47, 48, 49, 50, 51, 52, 53, 54, 55, 56, 57, 58] (by decide) rfl
    refine lv_aload_n hx hb dX10_read_48 rfl (lv_at hl 1 rfl) ?_
    refine q_get (v := .ref (a 41)) C inX10_read_X10 hK hP 0 rfl rfl 8 (by decide) rfl LX10_read_70 rfl dX10_read_49 ?_
    refine lv_iconst (v := 0) hx hb dX10_read_52 (by decide) ?_
    obtain ⟨s17, hs18, hB⟩ := letS_inv hB
    refine q_putN (ty := .int) (w2 := (wX cB cI cJ cZ cS a b b2 c0 rg sl s17)) tyX8 tyX8_ok nmX8 C hN inX10_read_X8 hK hP hD hS 58 rfl rfl 7 (by decide) rfl nwF_X10_102 rfl (by decide +kernel) (rfl) rfl (Nat.le_of_ble_eq_true rfl) dX10_read_53 (by subst hs18; rfl) (fun H locs hP hD hS => ?_)
    refine lv_iload_n hx hb dX10_read_56 rfl (lv_at hl 0 rfl) ?_
    exact q_iret C hr hlocks hK hP hD hS (Nat.le_of_ble_eq_true rfl) (Nat.le_of_ble_eq_true rfl) dX10_read_57 (by cases hB; exact ⟨rfl, rfl⟩)
theorem ckX10_read {l : Launch} {dC : Nat → ClassId} {dI : Nat → Nat → Nat} {cB cI cJ cZ cS : ClassId} {ak av : Nat} {a b b2 c0 : Nat → Nat} {rg sl : Nat → Option Nat} {r : Int32} {s' : XS} {s : XS} (hB : kX10_read s = some (r, s')) : CIS ak av l yX10_read wsX10_read ({ frames := 31, cells := 0, slots := 0, locals := 703 }) (dC, dI) (tysA cB cI cJ cZ cS) (wX cB cI cJ cZ cS a b b2 c0 rg sl s) [.ref (c0 0)] (fun x u => x = r ∧ u = (wX cB cI cJ cZ cS a b b2 c0 rg sl s')) :=
  CIS_of (cc := cX10_read) (maxL := 2) (ret := (some .int)) (by decide) rfl (Nat.le_of_ble_eq_true rfl) (bkX10_read _ hB)
end
