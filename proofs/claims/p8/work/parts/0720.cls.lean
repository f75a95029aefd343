set_option maxRecDepth 20000 in
theorem ggX4_readProduct_X4_readUnit : GoodIn wsX4_readProduct wsX4_readUnit := goodIn_r _ [36, 1, 2, 3, 8, 9, 10, 7, 11, 12, 37, 23, 38, 39, 26, 27, 28, 29, 30, 31, 13, 14, 15, 16, 17, 18, 19, 20, 21, 40, 41, 42, 43, 44, 45, 0, 4, 5, 6, 22, 24, 25, 32, 33, 34, 35, 46, 47, 48, 49, 50, 51, 52, 53, 54, 55, 56, 57, 58, 59, 60, 61, 62, 63, 64, 65, 66, 67, 68, 69, 70, 71, 72, 73, 74, 75, 76, 77, 78, 79] (by decide +kernel) (by decide +kernel)
set_option maxRecDepth 20000 in
theorem gX4_readProduct_X4_readUnit : GoodIn wsX4_readProduct (wsV RX4 143 RX4 yX4_readUnit wsX4_readUnit) := goodIn_app (goodIn_of _ (by decide +kernel)) ggX4_readProduct_X4_readUnit
set_option maxRecDepth 20000 in
theorem ggX4_readProduct_X4_isAt : GoodIn wsX4_readProduct wsX4_isAt := goodIn_r _ [11, 12, 1, 2, 46, 47, 48, 49, 50, 51, 52, 53, 54, 55, 56, 57, 58, 59, 60] (by decide +kernel) (by decide +kernel)
set_option maxRecDepth 20000 in
theorem gX4_readProduct_X4_isAt : GoodIn wsX4_readProduct (wsV RX4 53 RX4 yX4_isAt wsX4_isAt) := goodIn_app (goodIn_of _ (by decide +kernel)) ggX4_readProduct_X4_isAt
set_option maxRecDepth 20000 in
theorem ggX4_readProduct_X4_take : GoodIn wsX4_readProduct wsX4_take := goodIn_r _ [16, 2, 8, 9, 10, 7, 11, 12, 1, 17, 18, 19, 20, 21, 46, 47, 48, 49, 50, 51, 52, 53, 54, 55, 56, 57, 58, 59, 60] (by decide +kernel) (by decide +kernel)
set_option maxRecDepth 20000 in
theorem gX4_readProduct_X4_take : GoodIn wsX4_readProduct (wsV RX4 81 RX4 yX4_take wsX4_take) := goodIn_app (goodIn_of _ (by decide +kernel)) ggX4_readProduct_X4_take
set_option maxRecDepth 20000 in
theorem ggX4_readProduct_X1_putSign : GoodIn wsX4_readProduct wsX1_putSign := goodIn_r _ [25, 26, 27, 28, 23, 29, 30, 31, 71, 72, 73, 74, 75, 76, 77, 78, 79] (by decide +kernel) (by decide +kernel)
set_option maxRecDepth 20000 in
theorem gX4_readProduct_X1_putSign_n140 : GoodIn wsX4_readProduct (wsX1_putSign) := ggX4_readProduct_X1_putSign
theorem dX4_readProduct_0 : decode cX4_readProduct 0 = .ok (.aload_n 0, 1) := dc1_42 (by decide +kernel)
theorem dX4_readProduct_1 : decode cX4_readProduct 1 = .ok (.iload_n 1, 1) := dc1_27 (by decide +kernel)
theorem dX4_readProduct_2 : decode cX4_readProduct 2 = .ok (.invokevirtual 143, 3) := dcw_182 (by decide +kernel)
theorem dX4_readProduct_5 : decode cX4_readProduct 5 = .ok (.iconst 0, 1) := dc1_3 (by decide +kernel)
theorem dX4_readProduct_6 : decode cX4_readProduct 6 = .ok (.istore_n 2, 1) := dc1_61 (by decide +kernel)
theorem dX4_readProduct_7 : decode cX4_readProduct 7 = .ok (.iload_n 2, 1) := dc1_28 (by decide +kernel)
theorem dX4_readProduct_8 : decode cX4_readProduct 8 = .ok (.sipush 400, 3) := dcs_17 (n := 400) (by decide +kernel)
theorem dX4_readProduct_11 : decode cX4_readProduct 11 = .ok (.if_icmp .ge 61, 3) := dcs_162 (n := 61) (by decide +kernel)
theorem dX4_readProduct_14 : decode cX4_readProduct 14 = .ok (.aload_n 0, 1) := dc1_42 (by decide +kernel)
theorem dX4_readProduct_15 : decode cX4_readProduct 15 = .ok (.bipush 42, 2) := dcb_16 (n := 42) (by decide +kernel)
theorem dX4_readProduct_17 : decode cX4_readProduct 17 = .ok (.invokevirtual 53, 3) := dcw_182 (by decide +kernel)
theorem dX4_readProduct_20 : decode cX4_readProduct 20 = .ok (.ifCond .ne 12, 3) := dcs_154 (n := 12) (by decide +kernel)
theorem dX4_readProduct_23 : decode cX4_readProduct 23 = .ok (.aload_n 0, 1) := dc1_42 (by decide +kernel)
theorem dX4_readProduct_24 : decode cX4_readProduct 24 = .ok (.bipush 47, 2) := dcb_16 (n := 47) (by decide +kernel)
theorem dX4_readProduct_26 : decode cX4_readProduct 26 = .ok (.invokevirtual 53, 3) := dcw_182 (by decide +kernel)
theorem dX4_readProduct_29 : decode cX4_readProduct 29 = .ok (.ifCond .eq 43, 3) := dcs_153 (n := 43) (by decide +kernel)
theorem dX4_readProduct_32 : decode cX4_readProduct 32 = .ok (.aload_n 0, 1) := dc1_42 (by decide +kernel)
theorem dX4_readProduct_33 : decode cX4_readProduct 33 = .ok (.getfield 31, 3) := dcw_180 (by decide +kernel)
theorem dX4_readProduct_36 : decode cX4_readProduct 36 = .ok (.getfield 63, 3) := dcw_180 (by decide +kernel)
theorem dX4_readProduct_39 : decode cX4_readProduct 39 = .ok (.aload_n 0, 1) := dc1_42 (by decide +kernel)
theorem dX4_readProduct_40 : decode cX4_readProduct 40 = .ok (.getfield 38, 3) := dcw_180 (by decide +kernel)
theorem dX4_readProduct_43 : decode cX4_readProduct 43 = .ok (.iaload, 1) := dc1_46 (by decide +kernel)
theorem dX4_readProduct_44 : decode cX4_readProduct 44 = .ok (.istore_n 3, 1) := dc1_62 (by decide +kernel)
theorem dX4_readProduct_45 : decode cX4_readProduct 45 = .ok (.aload_n 0, 1) := dc1_42 (by decide +kernel)
theorem dX4_readProduct_46 : decode cX4_readProduct 46 = .ok (.iload_n 3, 1) := dc1_29 (by decide +kernel)
theorem dX4_readProduct_47 : decode cX4_readProduct 47 = .ok (.invokevirtual 81, 3) := dcw_182 (by decide +kernel)
theorem dX4_readProduct_50 : decode cX4_readProduct 50 = .ok (.aload_n 0, 1) := dc1_42 (by decide +kernel)
theorem dX4_readProduct_51 : decode cX4_readProduct 51 = .ok (.iload_n 1, 1) := dc1_27 (by decide +kernel)
theorem dX4_readProduct_52 : decode cX4_readProduct 52 = .ok (.invokevirtual 143, 3) := dcw_182 (by decide +kernel)
theorem dX4_readProduct_55 : decode cX4_readProduct 55 = .ok (.aload_n 0, 1) := dc1_42 (by decide +kernel)
theorem dX4_readProduct_56 : decode cX4_readProduct 56 = .ok (.getfield 12, 3) := dcw_180 (by decide +kernel)
theorem dX4_readProduct_59 : decode cX4_readProduct 59 = .ok (.getfield 119, 3) := dcw_180 (by decide +kernel)
theorem dX4_readProduct_62 : decode cX4_readProduct 62 = .ok (.iload_n 3, 1) := dc1_29 (by decide +kernel)
theorem dX4_readProduct_63 : decode cX4_readProduct 63 = .ok (.invokevirtual 140, 3) := dcw_182 (by decide +kernel)
theorem dX4_readProduct_66 : decode cX4_readProduct 66 = .ok (.iinc 2 1, 3) := dc_iinc (m := 1) (by decide +kernel)
theorem dX4_readProduct_69 : decode cX4_readProduct 69 = .ok (.goto (-62), 3) := dcs_167 (n := 65474) (by decide +kernel)
theorem dX4_readProduct_72 : decode cX4_readProduct 72 = .ok (.return_, 1) := dc1_177 (by decide +kernel)
theorem ggX9_split_X9_skipBlanks : GoodIn wsX9_split wsX9_skipBlanks := gi_sub (fun w h => List.mem_cons_of_mem _ (List.mem_append_left _ (List.mem_append_left _ (List.mem_append_right _ (List.mem_append_left _ h))))) gd_wsX9_skipBlanks
set_option maxRecDepth 20000 in
theorem gX9_split_X9_skipBlanks : GoodIn wsX9_split (wsV RX9 51 RX9 yX9_skipBlanks wsX9_skipBlanks) := goodIn_app (goodIn_r _ [6, 7, 8, 9] (by decide +kernel) (by decide +kernel)) ggX9_split_X9_skipBlanks
theorem ggX9_split_X9_splitOne : GoodIn wsX9_split wsX9_splitOne := gi_sub (fun w h => List.mem_cons_of_mem _ (List.mem_append_left _ (List.mem_append_left _ (List.mem_append_right _ (List.mem_append_right _ h))))) gd_wsX9_splitOne
set_option maxRecDepth 20000 in
theorem gX9_split_X9_splitOne : GoodIn wsX9_split (wsV RX9 54 RX9 yX9_splitOne wsX9_splitOne) := goodIn_app (goodIn_r _ [10, 11, 12, 9] (by decide +kernel) (by decide +kernel)) ggX9_split_X9_splitOne
theorem dX9_split_0 : decode cX9_split 0 = .ok (.aload_n 0, 1) := dc1_42 (by decide +kernel)
theorem dX9_split_1 : decode cX9_split 1 = .ok (.iconst 0, 1) := dc1_3 (by decide +kernel)
theorem dX9_split_2 : decode cX9_split 2 = .ok (.putfield 47, 3) := dcw_181 (by decide +kernel)
theorem dX9_split_5 : decode cX9_split 5 = .ok (.sipush 303, 3) := dcs_17 (n := 303) (by decide +kernel)
theorem dX9_split_8 : decode cX9_split 8 = .ok (.istore_n 1, 1) := dc1_60 (by decide +kernel)
theorem dX9_split_9 : decode cX9_split 9 = .ok (.iconst 0, 1) := dc1_3 (by decide +kernel)
theorem dX9_split_10 : decode cX9_split 10 = .ok (.istore_n 2, 1) := dc1_61 (by decide +kernel)
theorem dX9_split_11 : decode cX9_split 11 = .ok (.iload_n 2, 1) := dc1_28 (by decide +kernel)
theorem dX9_split_12 : decode cX9_split 12 = .ok (.sipush 400, 3) := dcs_17 (n := 400) (by decide +kernel)
theorem dX9_split_15 : decode cX9_split 15 = .ok (.if_icmp .gt 63, 3) := dcs_163 (n := 63) (by decide +kernel)
theorem dX9_split_18 : decode cX9_split 18 = .ok (.iload_n 2, 1) := dc1_28 (by decide +kernel)
theorem dX9_split_19 : decode cX9_split 19 = .ok (.ifCond .eq 17, 3) := dcs_153 (n := 17) (by decide +kernel)
theorem dX9_split_22 : decode cX9_split 22 = .ok (.iload_n 1, 1) := dc1_27 (by decide +kernel)
theorem dX9_split_23 : decode cX9_split 23 = .ok (.sipush 302, 3) := dcs_17 (n := 302) (by decide +kernel)
theorem dX9_split_26 : decode cX9_split 26 = .ok (.if_icmp .eq 52, 3) := dcs_159 (n := 52) (by decide +kernel)
theorem dX9_split_29 : decode cX9_split 29 = .ok (.iload_n 1, 1) := dc1_27 (by decide +kernel)
theorem dX9_split_30 : decode cX9_split 30 = .ok (.sipush 303, 3) := dcs_17 (n := 303) (by decide +kernel)
theorem dX9_split_33 : decode cX9_split 33 = .ok (.if_icmp .eq 45, 3) := dcs_159 (n := 45) (by decide +kernel)
theorem dX9_split_36 : decode cX9_split 36 = .ok (.aload_n 0, 1) := dc1_42 (by decide +kernel)
theorem dX9_split_37 : decode cX9_split 37 = .ok (.invokevirtual 51, 3) := dcw_182 (by decide +kernel)
theorem dX9_split_40 : decode cX9_split 40 = .ok (.aload_n 0, 1) := dc1_42 (by decide +kernel)
theorem dX9_split_41 : decode cX9_split 41 = .ok (.getfield 17, 3) := dcw_180 (by decide +kernel)
theorem dX9_split_44 : decode cX9_split 44 = .ok (.iload_n 2, 1) := dc1_28 (by decide +kernel)
theorem dX9_split_45 : decode cX9_split 45 = .ok (.aload_n 0, 1) := dc1_42 (by decide +kernel)
theorem dX9_split_46 : decode cX9_split 46 = .ok (.getfield 47, 3) := dcw_180 (by decide +kernel)
theorem dX9_split_49 : decode cX9_split 49 = .ok (.iastore, 1) := dc1_79 (by decide +kernel)
theorem dX9_split_50 : decode cX9_split 50 = .ok (.aload_n 0, 1) := dc1_42 (by decide +kernel)
theorem dX9_split_51 : decode cX9_split 51 = .ok (.invokevirtual 54, 3) := dcw_182 (by decide +kernel)
theorem dX9_split_54 : decode cX9_split 54 = .ok (.istore_n 1, 1) := dc1_60 (by decide +kernel)
theorem dX9_split_55 : decode cX9_split 55 = .ok (.aload_n 0, 1) := dc1_42 (by decide +kernel)
theorem dX9_split_56 : decode cX9_split 56 = .ok (.getfield 13, 3) := dcw_180 (by decide +kernel)
theorem dX9_split_59 : decode cX9_split 59 = .ok (.iload_n 2, 1) := dc1_28 (by decide +kernel)
theorem dX9_split_60 : decode cX9_split 60 = .ok (.iload_n 1, 1) := dc1_27 (by decide +kernel)
theorem dX9_split_61 : decode cX9_split 61 = .ok (.iastore, 1) := dc1_79 (by decide +kernel)
theorem dX9_split_62 : decode cX9_split 62 = .ok (.aload_n 0, 1) := dc1_42 (by decide +kernel)
theorem dX9_split_63 : decode cX9_split 63 = .ok (.getfield 20, 3) := dcw_180 (by decide +kernel)
theorem dX9_split_66 : decode cX9_split 66 = .ok (.iload_n 2, 1) := dc1_28 (by decide +kernel)
theorem dX9_split_67 : decode cX9_split 67 = .ok (.aload_n 0, 1) := dc1_42 (by decide +kernel)
theorem dX9_split_68 : decode cX9_split 68 = .ok (.getfield 57, 3) := dcw_180 (by decide +kernel)
theorem dX9_split_71 : decode cX9_split 71 = .ok (.lastore, 1) := dc1_80 (by decide +kernel)
theorem dX9_split_72 : decode cX9_split 72 = .ok (.iinc 2 1, 3) := dc_iinc (m := 1) (by decide +kernel)
theorem dX9_split_75 : decode cX9_split 75 = .ok (.goto (-64), 3) := dcs_167 (n := 65472) (by decide +kernel)
theorem dX9_split_78 : decode cX9_split 78 = .ok (.return_, 1) := dc1_177 (by decide +kernel)
theorem ggX9_splitOne_X7_byteAt : GoodIn wsX9_splitOne wsX7_byteAt := gi_sub (fun w h => List.mem_cons_of_mem _ (List.mem_append_left _ (List.mem_append_left _ (List.mem_append_right _ (List.mem_append_left _ h))))) gd_wsX7_byteAt
set_option maxRecDepth 20000 in
theorem gX9_splitOne_X7_byteAt_n65 : GoodIn wsX9_splitOne (wsX7_byteAt) := ggX9_splitOne_X7_byteAt
theorem ggX9_splitOne_X9_isLetter : GoodIn wsX9_splitOne wsX9_isLetter := gi_sub (fun w h => List.mem_cons_of_mem _ (List.mem_append_left _ (List.mem_append_left _ (List.mem_append_right _ (List.mem_append_right _ (List.mem_append_left _ h)))))) gd_wsX9_isLetter
set_option maxRecDepth 20000 in
theorem gX9_splitOne_X9_isLetter : GoodIn wsX9_splitOne (va_wsS RX9 39 yX9_isLetter wsX9_isLetter) := goodIn_app (goodIn_of _ (by decide +kernel)) ggX9_splitOne_X9_isLetter
theorem ggX9_splitOne_X9_splitLetters : GoodIn wsX9_splitOne wsX9_splitLetters := gi_sub (fun w h => List.mem_cons_of_mem _ (List.mem_append_left _ (List.mem_append_left _ (List.mem_append_right _ (List.mem_append_right _ (List.mem_append_right _ (List.mem_append_left _ h))))))) gd_wsX9_splitLetters
set_option maxRecDepth 20000 in
theorem gX9_splitOne_X9_splitLetters : GoodIn wsX9_splitOne (wsV RX9 72 RX9 yX9_splitLetters wsX9_splitLetters) := goodIn_app (goodIn_r _ [10, 11, 12, 9] (by decide +kernel) (by decide +kernel)) ggX9_splitOne_X9_splitLetters
theorem ggX9_splitOne_X9_isDigit : GoodIn wsX9_splitOne wsX9_isDigit := gi_sub (fun w h => List.mem_cons_of_mem _ (List.mem_append_left _ (List.mem_append_left _ (List.mem_append_right _ (List.mem_append_right _ (List.mem_append_right _ (List.mem_append_right _ (List.mem_append_left _ h)))))))) gd_wsX9_isDigit
set_option maxRecDepth 20000 in
theorem gX9_splitOne_X9_isDigit : GoodIn wsX9_splitOne (va_wsS RX9 75 yX9_isDigit wsX9_isDigit) := goodIn_app (goodIn_of _ (by decide +kernel)) ggX9_splitOne_X9_isDigit
theorem ggX9_splitOne_X9_splitDigits : GoodIn wsX9_splitOne wsX9_splitDigits := gi_sub (fun w h => List.mem_cons_of_mem _ (List.mem_append_left _ (List.mem_append_left _ (List.mem_append_right _ (List.mem_append_right _ (List.mem_append_right _ (List.mem_append_right _ (List.mem_append_right _ (List.mem_append_left _ h))))))))) gd_wsX9_splitDigits
set_option maxRecDepth 20000 in
theorem gX9_splitOne_X9_splitDigits : GoodIn wsX9_splitOne (wsV RX9 78 RX9 yX9_splitDigits wsX9_splitDigits) := goodIn_app (goodIn_r _ [15, 16, 17, 9] (by decide +kernel) (by decide +kernel)) ggX9_splitOne_X9_splitDigits
theorem ggX9_splitOne_J0_indexOf_0f7a4 : GoodIn wsX9_splitOne wsJ0_indexOf_0f7a4 := gi_sub (fun w h => List.mem_cons_of_mem _ (List.mem_append_left _ (List.mem_append_left _ (List.mem_append_right _ (List.mem_append_right _ (List.mem_append_right _ (List.mem_append_right _ (List.mem_append_right _ (List.mem_append_right _ h))))))))) gd_wsJ0_indexOf_0f7a4
set_option maxRecDepth 20000 in
theorem gX9_splitOne_J0_indexOf_0f7a4 : GoodIn wsX9_splitOne (wsV RX9 83 RJ0 yJ0_indexOf_0f7a4 wsJ0_indexOf_0f7a4) := goodIn_app (goodIn_r _ [18, 19, 20, 21] (by decide +kernel) (by decide +kernel)) ggX9_splitOne_J0_indexOf_0f7a4
theorem dX9_splitOne_0 : decode cX9_splitOne 0 = .ok (.aload_n 0, 1) := dc1_42 (by decide +kernel)
theorem dX9_splitOne_1 : decode cX9_splitOne 1 = .ok (.lconst 0, 1) := dc1_9 (by decide +kernel)
theorem dX9_splitOne_2 : decode cX9_splitOne 2 = .ok (.putfield 57, 3) := dcw_181 (by decide +kernel)
theorem dX9_splitOne_5 : decode cX9_splitOne 5 = .ok (.aload_n 0, 1) := dc1_42 (by decide +kernel)
theorem dX9_splitOne_6 : decode cX9_splitOne 6 = .ok (.getfield 23, 3) := dcw_180 (by decide +kernel)
theorem dX9_splitOne_9 : decode cX9_splitOne 9 = .ok (.aload_n 0, 1) := dc1_42 (by decide +kernel)
theorem dX9_splitOne_10 : decode cX9_splitOne 10 = .ok (.getfield 47, 3) := dcw_180 (by decide +kernel)
theorem dX9_splitOne_13 : decode cX9_splitOne 13 = .ok (.invokevirtual 65, 3) := dcw_182 (by decide +kernel)
theorem dX9_splitOne_16 : decode cX9_splitOne 16 = .ok (.istore_n 1, 1) := dc1_60 (by decide +kernel)
theorem dX9_splitOne_17 : decode cX9_splitOne 17 = .ok (.iload_n 1, 1) := dc1_27 (by decide +kernel)
theorem dX9_splitOne_18 : decode cX9_splitOne 18 = .ok (.iconst (-1), 1) := dc1_2 (by decide +kernel)
theorem dX9_splitOne_19 : decode cX9_splitOne 19 = .ok (.if_icmp .ne 7, 3) := dcs_160 (n := 7) (by decide +kernel)
theorem dX9_splitOne_22 : decode cX9_splitOne 22 = .ok (.sipush 302, 3) := dcs_17 (n := 302) (by decide +kernel)
theorem dX9_splitOne_25 : decode cX9_splitOne 25 = .ok (.ireturn, 1) := dc1_172 (by decide +kernel)
theorem dX9_splitOne_26 : decode cX9_splitOne 26 = .ok (.iload_n 1, 1) := dc1_27 (by decide +kernel)
theorem dX9_splitOne_27 : decode cX9_splitOne 27 = .ok (.invokestatic 39, 3) := dcw_184 (by decide +kernel)
theorem dX9_splitOne_30 : decode cX9_splitOne 30 = .ok (.ifCond .eq 8, 3) := dcs_153 (n := 8) (by decide +kernel)
theorem dX9_splitOne_33 : decode cX9_splitOne 33 = .ok (.aload_n 0, 1) := dc1_42 (by decide +kernel)
theorem dX9_splitOne_34 : decode cX9_splitOne 34 = .ok (.invokevirtual 72, 3) := dcw_182 (by decide +kernel)
theorem dX9_splitOne_37 : decode cX9_splitOne 37 = .ok (.ireturn, 1) := dc1_172 (by decide +kernel)
theorem dX9_splitOne_38 : decode cX9_splitOne 38 = .ok (.iload_n 1, 1) := dc1_27 (by decide +kernel)
theorem dX9_splitOne_39 : decode cX9_splitOne 39 = .ok (.invokestatic 75, 3) := dcw_184 (by decide +kernel)
theorem dX9_splitOne_42 : decode cX9_splitOne 42 = .ok (.ifCond .eq 8, 3) := dcs_153 (n := 8) (by decide +kernel)
theorem dX9_splitOne_45 : decode cX9_splitOne 45 = .ok (.aload_n 0, 1) := dc1_42 (by decide +kernel)
theorem dX9_splitOne_46 : decode cX9_splitOne 46 = .ok (.invokevirtual 78, 3) := dcw_182 (by decide +kernel)
theorem dX9_splitOne_49 : decode cX9_splitOne 49 = .ok (.ireturn, 1) := dc1_172 (by decide +kernel)
theorem dX9_splitOne_50 : decode cX9_splitOne 50 = .ok (.aload_n 0, 1) := dc1_42 (by decide +kernel)
theorem dX9_splitOne_51 : decode cX9_splitOne 51 = .ok (.dup, 1) := dc1_89 (by decide +kernel)
theorem dX9_splitOne_52 : decode cX9_splitOne 52 = .ok (.getfield 47, 3) := dcw_180 (by decide +kernel)
theorem dX9_splitOne_55 : decode cX9_splitOne 55 = .ok (.iconst 1, 1) := dc1_4 (by decide +kernel)
theorem dX9_splitOne_56 : decode cX9_splitOne 56 = .ok (.iadd, 1) := dc1_96 (by decide +kernel)
theorem dX9_splitOne_57 : decode cX9_splitOne 57 = .ok (.putfield 47, 3) := dcw_181 (by decide +kernel)
theorem dX9_splitOne_60 : decode cX9_splitOne 60 = .ok (.ldc 81, 2) := dcu_18 (by decide +kernel)
theorem dX9_splitOne_62 : decode cX9_splitOne 62 = .ok (.iload_n 1, 1) := dc1_27 (by decide +kernel)
theorem dX9_splitOne_63 : decode cX9_splitOne 63 = .ok (.i2c, 1) := dc1_146 (by decide +kernel)
theorem dX9_splitOne_64 : decode cX9_splitOne 64 = .ok (.invokevirtual 83, 3) := dcw_182 (by decide +kernel)
theorem dX9_splitOne_67 : decode cX9_splitOne 67 = .ok (.ifCond .lt 7, 3) := dcs_155 (n := 7) (by decide +kernel)
theorem dX9_splitOne_70 : decode cX9_splitOne 70 = .ok (.iload_n 1, 1) := dc1_27 (by decide +kernel)
theorem dX9_splitOne_71 : decode cX9_splitOne 71 = .ok (.goto 6, 3) := dcs_167 (n := 6) (by decide +kernel)
theorem dX9_splitOne_74 : decode cX9_splitOne 74 = .ok (.sipush 303, 3) := dcs_17 (n := 303) (by decide +kernel)
theorem dX9_splitOne_77 : decode cX9_splitOne 77 = .ok (.ireturn, 1) := dc1_172 (by decide +kernel)
theorem ggX10_buoy_X5_hasWave : GoodIn wsX10_buoy wsX5_hasWave := gi_sub (fun w h => List.mem_cons_of_mem _ (List.mem_append_left _ (List.mem_append_left _ (List.mem_append_left _ (List.mem_append_left _ (List.mem_append_right _ (List.mem_append_left _ h))))))) gd_wsX5_hasWave
set_option maxRecDepth 20000 in
theorem gX10_buoy_X5_hasWave_n108 : GoodIn wsX10_buoy (wsX5_hasWave) := ggX10_buoy_X5_hasWave
theorem ggX10_buoy_X10_isThing : GoodIn wsX10_buoy wsX10_isThing := gi_sub (fun w h => List.mem_cons_of_mem _ (List.mem_append_left _ (List.mem_append_left _ (List.mem_append_left _ (List.mem_append_left _ (List.mem_append_right _ (List.mem_append_right _ (List.mem_append_left _ h)))))))) gd_wsX10_isThing
set_option maxRecDepth 20000 in
theorem gX10_buoy_X10_isThing : GoodIn wsX10_buoy (va_wsS RX10 131 yX10_isThing wsX10_isThing) := goodIn_app (goodIn_of _ (by decide +kernel)) ggX10_buoy_X10_isThing
theorem ggX10_buoy_X10_has : GoodIn wsX10_buoy wsX10_has := gi_sub (fun w h => List.mem_cons_of_mem _ (List.mem_append_left _ (List.mem_append_left _ (List.mem_append_left _ (List.mem_append_left _ (List.mem_append_right _ (List.mem_append_right _ (List.mem_append_right _ (List.mem_append_left _ h))))))))) gd_wsX10_has
set_option maxRecDepth 20000 in
theorem gX10_buoy_X10_has : GoodIn wsX10_buoy (va_wsS RX10 181 yX10_has wsX10_has) := goodIn_app (goodIn_of _ (by decide +kernel)) ggX10_buoy_X10_has
theorem ggX10_buoy_X3_remember : GoodIn wsX10_buoy wsX3_remember := gi_sub (fun w h => List.mem_cons_of_mem _ (List.mem_append_left _ (List.mem_append_left _ (List.mem_append_left _ (List.mem_append_left _ (List.mem_append_right _ (List.mem_append_right _ (List.mem_append_right _ (List.mem_append_right _ h))))))))) gd_wsX3_remember
set_option maxRecDepth 20000 in
theorem gX10_buoy_X3_remember_n173 : GoodIn wsX10_buoy (wsX3_remember) := ggX10_buoy_X3_remember
theorem dX10_buoy_0 : decode cX10_buoy 0 = .ok (.aload_n 0, 1) := dc1_42 (by decide +kernel)
theorem dX10_buoy_1 : decode cX10_buoy 1 = .ok (.getfield 19, 3) := dcw_180 (by decide +kernel)
theorem dX10_buoy_4 : decode cX10_buoy 4 = .ok (.iload_n 1, 1) := dc1_27 (by decide +kernel)
theorem dX10_buoy_5 : decode cX10_buoy 5 = .ok (.invokevirtual 108, 3) := dcw_182 (by decide +kernel)
theorem dX10_buoy_8 : decode cX10_buoy 8 = .ok (.ifCond .eq 10, 3) := dcs_153 (n := 10) (by decide +kernel)
theorem dX10_buoy_11 : decode cX10_buoy 11 = .ok (.iload_n 2, 1) := dc1_28 (by decide +kernel)
theorem dX10_buoy_12 : decode cX10_buoy 12 = .ok (.invokestatic 131, 3) := dcw_184 (by decide +kernel)
theorem dX10_buoy_15 : decode cX10_buoy 15 = .ok (.ifCond .ne 5, 3) := dcs_154 (n := 5) (by decide +kernel)
theorem dX10_buoy_18 : decode cX10_buoy 18 = .ok (.iconst 0, 1) := dc1_3 (by decide +kernel)
theorem dX10_buoy_19 : decode cX10_buoy 19 = .ok (.ireturn, 1) := dc1_172 (by decide +kernel)
theorem dX10_buoy_20 : decode cX10_buoy 20 = .ok (.aload_n 0, 1) := dc1_42 (by decide +kernel)
theorem dX10_buoy_21 : decode cX10_buoy 21 = .ok (.getfield 35, 3) := dcw_180 (by decide +kernel)
theorem dX10_buoy_24 : decode cX10_buoy 24 = .ok (.getfield 119, 3) := dcw_180 (by decide +kernel)
theorem dX10_buoy_27 : decode cX10_buoy 27 = .ok (.iload_n 1, 1) := dc1_27 (by decide +kernel)
theorem dX10_buoy_28 : decode cX10_buoy 28 = .ok (.iaload, 1) := dc1_46 (by decide +kernel)
theorem dX10_buoy_29 : decode cX10_buoy 29 = .ok (.iload_n 2, 1) := dc1_28 (by decide +kernel)
theorem dX10_buoy_30 : decode cX10_buoy 30 = .ok (.invokestatic 181, 3) := dcw_184 (by decide +kernel)
theorem dX10_buoy_33 : decode cX10_buoy 33 = .ok (.iload_n 3, 1) := dc1_29 (by decide +kernel)
theorem dX10_buoy_34 : decode cX10_buoy 34 = .ok (.if_icmp .ne 5, 3) := dcs_160 (n := 5) (by decide +kernel)
theorem dX10_buoy_37 : decode cX10_buoy 37 = .ok (.iconst 0, 1) := dc1_3 (by decide +kernel)
theorem dX10_buoy_38 : decode cX10_buoy 38 = .ok (.ireturn, 1) := dc1_172 (by decide +kernel)
theorem dX10_buoy_39 : decode cX10_buoy 39 = .ok (.aload_n 0, 1) := dc1_42 (by decide +kernel)
theorem dX10_buoy_40 : decode cX10_buoy 40 = .ok (.getfield 45, 3) := dcw_180 (by decide +kernel)
theorem dX10_buoy_43 : decode cX10_buoy 43 = .ok (.aload_n 0, 1) := dc1_42 (by decide +kernel)
theorem dX10_buoy_44 : decode cX10_buoy 44 = .ok (.getfield 35, 3) := dcw_180 (by decide +kernel)
theorem dX10_buoy_47 : decode cX10_buoy 47 = .ok (.invokevirtual 173, 3) := dcw_182 (by decide +kernel)
theorem dX10_buoy_50 : decode cX10_buoy 50 = .ok (.aload_n 0, 1) := dc1_42 (by decide +kernel)
theorem dX10_buoy_51 : decode cX10_buoy 51 = .ok (.getfield 35, 3) := dcw_180 (by decide +kernel)
theorem dX10_buoy_54 : decode cX10_buoy 54 = .ok (.getfield 119, 3) := dcw_180 (by decide +kernel)
theorem dX10_buoy_57 : decode cX10_buoy 57 = .ok (.iload_n 1, 1) := dc1_27 (by decide +kernel)
theorem dX10_buoy_58 : decode cX10_buoy 58 = .ok (.dup2, 1) := dc1_92 (by decide +kernel)
theorem dX10_buoy_59 : decode cX10_buoy 59 = .ok (.iaload, 1) := dc1_46 (by decide +kernel)
theorem dX10_buoy_60 : decode cX10_buoy 60 = .ok (.iconst 1, 1) := dc1_4 (by decide +kernel)
theorem dX10_buoy_61 : decode cX10_buoy 61 = .ok (.iload_n 2, 1) := dc1_28 (by decide +kernel)
theorem dX10_buoy_62 : decode cX10_buoy 62 = .ok (.ishl, 1) := dc1_120 (by decide +kernel)
theorem dX10_buoy_63 : decode cX10_buoy 63 = .ok (.ixor, 1) := dc1_130 (by decide +kernel)
theorem dX10_buoy_64 : decode cX10_buoy 64 = .ok (.iastore, 1) := dc1_79 (by decide +kernel)
theorem dX10_buoy_65 : decode cX10_buoy 65 = .ok (.iconst 1, 1) := dc1_4 (by decide +kernel)
theorem dX10_buoy_66 : decode cX10_buoy 66 = .ok (.ireturn, 1) := dc1_172 (by decide +kernel)
theorem ggX10_fetch_X5_hasParty : GoodIn wsX10_fetch wsX5_hasParty := gi_sub (fun w h => List.mem_cons_of_mem _ (List.mem_append_left _ (List.mem_append_left _ (List.mem_append_left _ (List.mem_append_left _ (List.mem_append_right _ (List.mem_append_left _ h))))))) gd_wsX5_hasParty
set_option maxRecDepth 20000 in
theorem gX10_fetch_X5_hasParty_n138 : GoodIn wsX10_fetch (wsX5_hasParty) := ggX10_fetch_X5_hasParty
theorem ggX10_fetch_X3_remember : GoodIn wsX10_fetch wsX3_remember := gi_sub (fun w h => List.mem_cons_of_mem _ (List.mem_append_left _ (List.mem_append_left _ (List.mem_append_left _ (List.mem_append_left _ (List.mem_append_right _ (List.mem_append_right _ h))))))) gd_wsX3_remember
set_option maxRecDepth 20000 in
theorem gX10_fetch_X3_remember_n173 : GoodIn wsX10_fetch (wsX3_remember) := ggX10_fetch_X3_remember
theorem dX10_fetch_0 : decode cX10_fetch 0 = .ok (.aload_n 0, 1) := dc1_42 (by decide +kernel)
theorem dX10_fetch_1 : decode cX10_fetch 1 = .ok (.getfield 19, 3) := dcw_180 (by decide +kernel)
theorem dX10_fetch_4 : decode cX10_fetch 4 = .ok (.iload_n 1, 1) := dc1_27 (by decide +kernel)
theorem dX10_fetch_5 : decode cX10_fetch 5 = .ok (.invokevirtual 138, 3) := dcw_182 (by decide +kernel)
theorem dX10_fetch_8 : decode cX10_fetch 8 = .ok (.ifCond .eq 15, 3) := dcs_153 (n := 15) (by decide +kernel)
theorem dX10_fetch_11 : decode cX10_fetch 11 = .ok (.aload_n 0, 1) := dc1_42 (by decide +kernel)
theorem dX10_fetch_12 : decode cX10_fetch 12 = .ok (.getfield 35, 3) := dcw_180 (by decide +kernel)
theorem dX10_fetch_15 : decode cX10_fetch 15 = .ok (.getfield 147, 3) := dcw_180 (by decide +kernel)
theorem dX10_fetch_18 : decode cX10_fetch 18 = .ok (.iload_n 1, 1) := dc1_27 (by decide +kernel)
theorem dX10_fetch_19 : decode cX10_fetch 19 = .ok (.iaload, 1) := dc1_46 (by decide +kernel)
theorem dX10_fetch_20 : decode cX10_fetch 20 = .ok (.ifCond .ne 5, 3) := dcs_154 (n := 5) (by decide +kernel)
theorem dX10_fetch_23 : decode cX10_fetch 23 = .ok (.iconst 0, 1) := dc1_3 (by decide +kernel)
theorem dX10_fetch_24 : decode cX10_fetch 24 = .ok (.ireturn, 1) := dc1_172 (by decide +kernel)
theorem dX10_fetch_25 : decode cX10_fetch 25 = .ok (.aload_n 0, 1) := dc1_42 (by decide +kernel)
theorem dX10_fetch_26 : decode cX10_fetch 26 = .ok (.getfield 45, 3) := dcw_180 (by decide +kernel)
theorem dX10_fetch_29 : decode cX10_fetch 29 = .ok (.aload_n 0, 1) := dc1_42 (by decide +kernel)
theorem dX10_fetch_30 : decode cX10_fetch 30 = .ok (.getfield 35, 3) := dcw_180 (by decide +kernel)
theorem dX10_fetch_33 : decode cX10_fetch 33 = .ok (.invokevirtual 173, 3) := dcw_182 (by decide +kernel)
theorem dX10_fetch_36 : decode cX10_fetch 36 = .ok (.aload_n 0, 1) := dc1_42 (by decide +kernel)
theorem dX10_fetch_37 : decode cX10_fetch 37 = .ok (.getfield 35, 3) := dcw_180 (by decide +kernel)
theorem dX10_fetch_40 : decode cX10_fetch 40 = .ok (.getfield 147, 3) := dcw_180 (by decide +kernel)
theorem dX10_fetch_43 : decode cX10_fetch 43 = .ok (.iload_n 1, 1) := dc1_27 (by decide +kernel)
theorem dX10_fetch_44 : decode cX10_fetch 44 = .ok (.iconst 0, 1) := dc1_3 (by decide +kernel)
theorem dX10_fetch_45 : decode cX10_fetch 45 = .ok (.iastore, 1) := dc1_79 (by decide +kernel)
theorem dX10_fetch_46 : decode cX10_fetch 46 = .ok (.iconst 1, 1) := dc1_4 (by decide +kernel)
theorem dX10_fetch_47 : decode cX10_fetch 47 = .ok (.ireturn, 1) := dc1_172 (by decide +kernel)
theorem ggX10_undo_X3_takeBack : GoodIn wsX10_undo wsX3_takeBack := gi_sub (fun w h => List.mem_cons_of_mem _ (List.mem_append_left _ (List.mem_append_left _ (List.mem_append_left _ (List.mem_append_right _ h))))) gd_wsX3_takeBack
set_option maxRecDepth 20000 in
theorem gX10_undo_X3_takeBack_n192 : GoodIn wsX10_undo (wsX3_takeBack) := ggX10_undo_X3_takeBack
theorem dX10_undo_0 : decode cX10_undo 0 = .ok (.aload_n 0, 1) := dc1_42 (by decide +kernel)
theorem dX10_undo_1 : decode cX10_undo 1 = .ok (.getfield 45, 3) := dcw_180 (by decide +kernel)
theorem dX10_undo_4 : decode cX10_undo 4 = .ok (.aload_n 0, 1) := dc1_42 (by decide +kernel)
theorem dX10_undo_5 : decode cX10_undo 5 = .ok (.getfield 35, 3) := dcw_180 (by decide +kernel)
theorem dX10_undo_8 : decode cX10_undo 8 = .ok (.invokevirtual 192, 3) := dcw_182 (by decide +kernel)
theorem dX10_undo_11 : decode cX10_undo 11 = .ok (.ireturn, 1) := dc1_172 (by decide +kernel)
theorem ggX10_hold_X3_keepIn : GoodIn wsX10_hold wsX3_keepIn := gi_sub (fun w h => List.mem_cons_of_mem _ (List.mem_append_left _ (List.mem_append_left _ (List.mem_append_left _ (List.mem_append_right _ h))))) gd_wsX3_keepIn
set_option maxRecDepth 20000 in
theorem gX10_hold_X3_keepIn_n282 : GoodIn wsX10_hold (wsX3_keepIn) := ggX10_hold_X3_keepIn
theorem dX10_hold_0 : decode cX10_hold 0 = .ok (.aload_n 0, 1) := dc1_42 (by decide +kernel)
theorem dX10_hold_1 : decode cX10_hold 1 = .ok (.getfield 45, 3) := dcw_180 (by decide +kernel)
theorem dX10_hold_4 : decode cX10_hold 4 = .ok (.iload_n 1, 1) := dc1_27 (by decide +kernel)
theorem dX10_hold_5 : decode cX10_hold 5 = .ok (.aload_n 0, 1) := dc1_42 (by decide +kernel)
theorem dX10_hold_6 : decode cX10_hold 6 = .ok (.getfield 35, 3) := dcw_180 (by decide +kernel)
theorem dX10_hold_9 : decode cX10_hold 9 = .ok (.invokevirtual 282, 3) := dcw_182 (by decide +kernel)
theorem dX10_hold_12 : decode cX10_hold 12 = .ok (.ireturn, 1) := dc1_172 (by decide +kernel)
theorem ggX10_restore_X3_goOnFrom : GoodIn wsX10_restore wsX3_goOnFrom := gi_sub (fun w h => List.mem_cons_of_mem _ (List.mem_append_left _ (List.mem_append_left _ (List.mem_append_left _ (List.mem_append_right _ h))))) gd_wsX3_goOnFrom
set_option maxRecDepth 20000 in
theorem gX10_restore_X3_goOnFrom_n286 : GoodIn wsX10_restore (wsX3_goOnFrom) := ggX10_restore_X3_goOnFrom
theorem dX10_restore_0 : decode cX10_restore 0 = .ok (.aload_n 0, 1) := dc1_42 (by decide +kernel)
theorem dX10_restore_1 : decode cX10_restore 1 = .ok (.getfield 45, 3) := dcw_180 (by decide +kernel)
theorem dX10_restore_4 : decode cX10_restore 4 = .ok (.iload_n 1, 1) := dc1_27 (by decide +kernel)
theorem dX10_restore_5 : decode cX10_restore 5 = .ok (.aload_n 0, 1) := dc1_42 (by decide +kernel)
theorem dX10_restore_6 : decode cX10_restore 6 = .ok (.getfield 35, 3) := dcw_180 (by decide +kernel)
theorem dX10_restore_9 : decode cX10_restore 9 = .ok (.invokevirtual 286, 3) := dcw_182 (by decide +kernel)
theorem dX10_restore_12 : decode cX10_restore 12 = .ok (.ireturn, 1) := dc1_172 (by decide +kernel)
theorem LX9_splitOne_23 : Cond.fieldLink RX9 23 "GuessFerry$Tokens" "tape" "LGuessFerry$Tape;" ∈ wsX9_splitOne := by decide +kernel
theorem LX9_splitOne_47 : Cond.fieldLink RX9 47 "GuessFerry$Tokens" "end" "I" ∈ wsX9_splitOne := by decide +kernel
theorem LX9_splitOne_57 : Cond.fieldLink RX9 57 "GuessFerry$Tokens" "value" "J" ∈ wsX9_splitOne := by decide +kernel
theorem LX9_splitOne_E_X7_byteAt : Cond.selects RX7 yX7_byteAt yX7_byteAt ∈ wsX9_splitOne := by decide +kernel
theorem LX9_splitOne_I_X7 : Cond.initialized RX7 ∈ wsX9_splitOne := by decide +kernel
theorem LX9_splitOne_N_X7_byteAt : Cond.instanceMethod yX7_byteAt ∈ wsX9_splitOne := by decide +kernel
theorem inX9_splitOne_X9 : ∀ w ∈ u_ws RX9 TX9 7, w ∈ wsX9_splitOne := by decide +kernel
set_option maxHeartbeats 4000000 in
set_option maxRecDepth 100000 in
theorem bkX9_splitOne {l : Launch} {dC : Nat → ClassId} {dI : Nat → Nat → Nat} {cB cI cJ cZ cS : ClassId} {ak av : Nat} {a : Nat → Nat} {as : List Value} {r : Int32} {s' : KS} (s : KS) (hB : kX9_splitOne s = some (r, s')) : BlkIS ak av l yX9_splitOne wsX9_splitOne ({ frames := 4, cells := 0, slots := 0, locals := 91 }) cX9_splitOne 2 (some .int) (dC, dI) (tysA cB cI cJ cZ cS) as 0 (wK cB cI cJ cZ cS a s) [(0, .ref (a 30))] [] (fun x u => x = r ∧ u = (wK cB cI cJ cZ cS a s')) := by
  intro p e s0 m below meth c A E hX H locs ls hP hD hS hl
  obtain ⟨C, hr, hlocks, hA, hK, hN⟩ := id E
  obtain ⟨hx, hb, hml, hown, hts⟩ := id C
  unfold kX9_splitOne at hB
  refine lv_aload_n hx hb dX9_splitOne_0 rfl (lv_at hl 0 rfl) ?_
  refine lv_lconst (v := 0) hx hb dX9_splitOne_1 (by decide) ?_
  obtain ⟨s1, hs2, hB⟩ := letS_inv hB
  refine q_put (ty := .long) (w2 := (wK cB cI cJ cZ cS a s1)) tyX9 tyX9_ok nmX9 C inX9_splitOne_X9 hK hP hD hS 30 rfl rfl 6 (by decide) rfl LX9_splitOne_57 rfl (by decide +kernel) (rfl) rfl (Nat.le_of_ble_eq_true rfl) dX9_splitOne_2 (by subst hs2; rfl) (fun H locs hP hD hS => ?_)
  refine lv_aload_n hx hb dX9_splitOne_5 rfl (lv_at hl 0 rfl) ?_
  refine q_get (v := .ref (a 0)) C inX9_splitOne_X9 hK hP 30 rfl rfl 0 (by decide) rfl LX9_splitOne_23 rfl dX9_splitOne_6 ?_
  refine lv_aload_n hx hb dX9_splitOne_9 rfl (lv_at hl 0 rfl) ?_
  refine q_get (v := .int (s1.v 20)) C inX9_splitOne_X9 hK hP 30 rfl rfl 5 (by decide) rfl LX9_splitOne_47 rfl dX9_splitOne_10 ?_
  obtain ⟨q_, s3, hc, hB⟩ := bindI_inv hB
  refine q_goiF (va_runVN (As := [.int (s1.v 20)]) (rest := []) C (ckX7_byteAt hc _) ⟨va_cnB 1 hts gX9_splitOne_X7_byteAt_n65 rfl rfl rfl (hN _ nwM_X9_65 rfl) (hts _ LX9_splitOne_I_X7) (by decide +kernel) ⟨Nat.le_of_ble_eq_true rfl, Nat.le_of_ble_eq_true rfl⟩, hts _ LX9_splitOne_N_X7_byteAt, hts _ LX9_splitOne_E_X7_byteAt⟩ (q_preV hK hP (ci := 7) (q0 := 0) rfl rfl rfl (q_preF hN hK hP hD)) rfl rfl hl.1 rfl (lv_room (Nat.le_of_ble_eq_true rfl)) dX9_splitOne_13 ⟨Nat.le_of_ble_eq_true rfl, Nat.le_of_ble_eq_true rfl⟩) hD hS hA (fun r4 w1 H locs hw hP hD hS => ?_)
  obtain ⟨hq_, hw⟩ := hw; subst hw; subst hq_
  refine lv_istore_n (lv' := [(1, .int r4), (0, .ref (a 30))]) hx hb dX9_splitOne_16 rfl hl (by decide) rfl (fun ls hl => ?_)
  refine lv_iload_n hx hb dX9_splitOne_17 rfl (lv_at hl 0 rfl) ?_
  refine lv_iconst (v := (-1)) hx hb dX9_splitOne_18 (by decide) ?_
  refine lv_icmp_ne (tgt := 26) hx hb dX9_splitOne_19 (by decide) (fun c5 => ?_) (fun c5 => ?_)
  · have hB := if_n hB c5
    refine lv_iload_n hx hb dX9_splitOne_26 rfl (lv_at hl 0 rfl) ?_
    obtain ⟨q_, hc, hB⟩ := bindP_inv hB
    refine q_goi0 (va_runS (As := [.int r4]) (rest := []) C (ckX9_isLetter hc _) (va_cwS 1 hts gX9_splitOne_X9_isLetter rfl rfl rfl (by decide +kernel) ⟨Nat.le_of_ble_eq_true rfl, Nat.le_of_ble_eq_true rfl⟩) (q_pre0 hN hK) rfl rfl hl.1 rfl (lv_room (Nat.le_of_ble_eq_true rfl)) dX9_splitOne_27 ⟨Nat.le_of_ble_eq_true rfl, Nat.le_of_ble_eq_true rfl⟩) hP hD hS hA (fun r6 w1 H locs hw hP hS => ?_)
    subst hw
    refine lv_if_eq (tgt := 38) hx hb dX9_splitOne_30 (by decide) (fun c7 => ?_) (fun c7 => ?_)
    · have hB := if_p hB c7
      refine lv_iload_n hx hb dX9_splitOne_38 rfl (lv_at hl 0 rfl) ?_
      obtain ⟨q_, hc, hB⟩ := bindP_inv hB
      refine q_goi0 (va_runS (As := [.int r4]) (rest := []) C (ckX9_isDigit hc _) (va_cwS 1 hts gX9_splitOne_X9_isDigit rfl rfl rfl (by decide +kernel) ⟨Nat.le_of_ble_eq_true rfl, Nat.le_of_ble_eq_true rfl⟩) (q_pre0 hN hK) rfl rfl hl.1 rfl (lv_room (Nat.le_of_ble_eq_true rfl)) dX9_splitOne_39 ⟨Nat.le_of_ble_eq_true rfl, Nat.le_of_ble_eq_true rfl⟩) hP hD hS hA (fun r8 w1 H locs hw hP hS => ?_)
      subst hw
      refine lv_if_eq (tgt := 50) hx hb dX9_splitOne_42 (by decide) (fun c9 => ?_) (fun c9 => ?_)
      · have hB := if_p hB c9
        refine lv_aload_n hx hb dX9_splitOne_50 rfl (lv_at hl 1 rfl) ?_
        refine lv_dup hx hb dX9_splitOne_51 rfl ?_
        refine q_get (v := .int (s3.v 20)) C inX9_splitOne_X9 hK hP 30 rfl rfl 5 (by decide) rfl LX9_splitOne_47 rfl dX9_splitOne_52 ?_
        refine lv_iconst (v := 1) hx hb dX9_splitOne_55 (by decide) ?_
        refine lv_iadd hx hb dX9_splitOne_56 ?_
        obtain ⟨s10, hs11, hB⟩ := letS_inv hB
        refine q_put (ty := .int) (w2 := (wK cB cI cJ cZ cS a s10)) tyX9 tyX9_ok nmX9 C inX9_splitOne_X9 hK hP hD hS 30 rfl rfl 5 (by decide) rfl LX9_splitOne_47 rfl (by decide +kernel) (rfl) rfl (Nat.le_of_ble_eq_true rfl) dX9_splitOne_57 (by subst hs11; rfl) (fun H locs hP hD hS => ?_)
        refine va_ldcS hx hb hown hX.1 dX9_splitOne_60 ?_
        refine lv_iload_n hx hb dX9_splitOne_62 rfl (lv_at hl 0 rfl) ?_
        refine lv_i2c (v := (UInt32.toInt32 (Int32.toUInt32 r4 % 65536))) hx hb dX9_splitOne_63 rfl ?_
        obtain ⟨q_, hc, hB⟩ := bindP_inv hB
        refine q_goi0 (va_runV (As := [.int (UInt32.toInt32 (Int32.toUInt32 r4 % 65536))]) (rest := []) C (ckJ0_indexOf_0f7a4 hc _) (cwV 1 hts gX9_splitOne_J0_indexOf_0f7a4 rfl rfl rfl (by decide +kernel) ⟨Nat.le_of_ble_eq_true rfl, Nat.le_of_ble_eq_true rfl⟩) ⟨(q_preS0 hN hK hS hA hX).1, va_Orecv hX.2.1 hS, (q_preS0 hN hK hS hA hX).2⟩ rfl rfl hl.1 rfl (lv_room (Nat.le_of_ble_eq_true rfl)) dX9_splitOne_64 ⟨Nat.le_of_ble_eq_true rfl, Nat.le_of_ble_eq_true rfl⟩) hP hD hS hA (fun r12 w1 H locs hw hP hS => ?_)
        subst hw
        refine lv_if_lt (tgt := 74) hx hb dX9_splitOne_67 (by decide) (fun c13 => ?_) (fun c13 => ?_)
        · have hB := if_p hB c13
          refine lv_sipush (v := 303) hx hb dX9_splitOne_74 (by decide) ?_
          exact q_iret C hr hlocks hK hP hD hS (Nat.le_of_ble_eq_true rfl) (Nat.le_of_ble_eq_true rfl) dX9_splitOne_77 (by cases hB; exact ⟨rfl, rfl⟩)
        · have hB := if_n hB c13
          refine lv_iload_n hx hb dX9_splitOne_70 rfl (lv_at hl 0 rfl) ?_
          refine lv_goto (tgt := 77) hx hb dX9_splitOne_71 (by decide) ?_
          exact q_iret C hr hlocks hK hP hD hS (Nat.le_of_ble_eq_true rfl) (Nat.le_of_ble_eq_true rfl) dX9_splitOne_77 (by cases hB; exact ⟨rfl, rfl⟩)
      · have hB := if_n hB c9
        refine lv_aload_n hx hb dX9_splitOne_45 rfl (lv_at hl 1 rfl) ?_
        obtain ⟨q_, s14, hc, hB⟩ := bindI_inv hB
        refine q_goiF (va_runV (As := []) (rest := []) C (ckX9_splitDigits hc _) (cwV 0 hts gX9_splitOne_X9_splitDigits rfl rfl rfl (by decide +kernel) ⟨Nat.le_of_ble_eq_true rfl, Nat.le_of_ble_eq_true rfl⟩) (q_preV hK hP (ci := 9) (q0 := 30) rfl rfl rfl (q_preF hN hK hP hD)) rfl rfl hl.1 rfl (lv_room (Nat.le_of_ble_eq_true rfl)) dX9_splitOne_46 ⟨Nat.le_of_ble_eq_true rfl, Nat.le_of_ble_eq_true rfl⟩) hD hS hA (fun r15 w1 H locs hw hP hD hS => ?_)
        obtain ⟨hq_, hw⟩ := hw; subst hw; subst hq_
        exact q_iret C hr hlocks hK hP hD hS (Nat.le_of_ble_eq_true rfl) (Nat.le_of_ble_eq_true rfl) dX9_splitOne_49 (by cases hB; exact ⟨rfl, rfl⟩)
    · have hB := if_n hB c7
      refine lv_aload_n hx hb dX9_splitOne_33 rfl (lv_at hl 1 rfl) ?_
      obtain ⟨q_, s16, hc, hB⟩ := bindI_inv hB
      refine q_goiF (va_runV (As := []) (rest := []) C (ckX9_splitLetters hc _) (cwV 0 hts gX9_splitOne_X9_splitLetters rfl rfl rfl (by decide +kernel) ⟨Nat.le_of_ble_eq_true rfl, Nat.le_of_ble_eq_true rfl⟩) (q_preV hK hP (ci := 9) (q0 := 30) rfl rfl rfl (q_preF hN hK hP hD)) rfl rfl hl.1 rfl (lv_room (Nat.le_of_ble_eq_true rfl)) dX9_splitOne_34 ⟨Nat.le_of_ble_eq_true rfl, Nat.le_of_ble_eq_true rfl⟩) hD hS hA (fun r17 w1 H locs hw hP hD hS => ?_)
      obtain ⟨hq_, hw⟩ := hw; subst hw; subst hq_
      exact q_iret C hr hlocks hK hP hD hS (Nat.le_of_ble_eq_true rfl) (Nat.le_of_ble_eq_true rfl) dX9_splitOne_37 (by cases hB; exact ⟨rfl, rfl⟩)
  · have hB := if_p hB c5
    refine lv_sipush (v := 302) hx hb dX9_splitOne_22 (by decide) ?_
    exact q_iret C hr hlocks hK hP hD hS (Nat.le_of_ble_eq_true rfl) (Nat.le_of_ble_eq_true rfl) dX9_splitOne_25 (by cases hB; exact ⟨rfl, rfl⟩)
theorem ckX9_splitOne {l : Launch} {dC : Nat → ClassId} {dI : Nat → Nat → Nat} {cB cI cJ cZ cS : ClassId} {ak av : Nat} {a : Nat → Nat} {r : Int32} {s' : KS} {s : KS} (hB : kX9_splitOne s = some (r, s')) : CIS ak av l yX9_splitOne wsX9_splitOne ({ frames := 4, cells := 0, slots := 0, locals := 91 }) (dC, dI) (tysA cB cI cJ cZ cS) (wK cB cI cJ cZ cS a s) [.ref (a 30)] (fun x u => x = r ∧ u = (wK cB cI cJ cZ cS a s')) :=
  CIS_of (cc := cX9_splitOne) (maxL := 2) (ret := (some .int)) (by decide) rfl (Nat.le_of_ble_eq_true rfl) (bkX9_splitOne _ hB)
theorem LX10_buoy_19 : Cond.fieldLink RX10 19 "GuessFerry" "sound" "LGuessFerry$Sound;" ∈ wsX10_buoy := by decide +kernel
theorem LX10_buoy_35 : Cond.fieldLink RX10 35 "GuessFerry" "now" "LGuessFerry$Standing;" ∈ wsX10_buoy := by decide +kernel
theorem LX10_buoy_45 : Cond.fieldLink RX10 45 "GuessFerry" "past" "LGuessFerry$Past;" ∈ wsX10_buoy := by decide +kernel
theorem LX10_buoy_E_X3_remember : Cond.selects RX3 yX3_remember yX3_remember ∈ wsX10_buoy := by decide +kernel
theorem LX10_buoy_E_X5_hasWave : Cond.selects RX5 yX5_hasWave yX5_hasWave ∈ wsX10_buoy := by decide +kernel
theorem LX10_buoy_I_X3 : Cond.initialized RX3 ∈ wsX10_buoy := by decide +kernel
theorem LX10_buoy_I_X5 : Cond.initialized RX5 ∈ wsX10_buoy := by decide +kernel
theorem LX10_buoy_N_X3_remember : Cond.instanceMethod yX3_remember ∈ wsX10_buoy := by decide +kernel
theorem LX10_buoy_N_X5_hasWave : Cond.instanceMethod yX5_hasWave ∈ wsX10_buoy := by decide +kernel
theorem inX10_buoy_X10 : ∀ w ∈ u_ws RX10 TX10 9, w ∈ wsX10_buoy := by decide +kernel
theorem inX10_buoy_X6 : ∀ w ∈ u_ws RX6 TX6 7, w ∈ wsX10_buoy := by decide +kernel
set_option maxHeartbeats 4000000 in
set_option maxRecDepth 100000 in
theorem bkX10_buoy {l : Launch} {dC : Nat → ClassId} {dI : Nat → Nat → Nat} {cB cI cJ cZ cS : ClassId} {a b b2 c0 : Nat → Nat} {bb : Nat → Nat → Nat} {as : List Value} {r : Int32} {s' : YS} (s : YS) (x1 : Int32) (x2 : Int32) (x3 : Int32) (hB : kX10_buoy s x1 x2 x3 = some (r, s')) : BlkI l yX10_buoy wsX10_buoy ({ frames := 3, cells := 0, slots := 0, locals := 106 }) cX10_buoy 4 (some .boolean) (dC, dI) (tysA cB cI cJ cZ cS) as 0 (wY cB cI cJ cZ cS a b b2 c0 bb s) [(0, .ref (c0 0)), (1, .int x1), (2, .int x2), (3, .int x3)] [] (fun x u => x = r ∧ u = (wY cB cI cJ cZ cS a b b2 c0 bb s')) := by
  intro p e s0 m below meth c A E H locs ls hP hD hS hl
  obtain ⟨C, hr, hlocks, hA, hK, hN⟩ := id E
  obtain ⟨hx, hb, hml, hown, hts⟩ := id C
  unfold kX10_buoy at hB
  refine lv_aload_n hx hb dX10_buoy_0 rfl (lv_at hl 0 rfl) ?_
  refine q_get (v := .ref (a 2)) C inX10_buoy_X10 hK hP 0 rfl rfl 1 (by decide) rfl LX10_buoy_19 rfl dX10_buoy_1 ?_
  refine lv_iload_n hx hb dX10_buoy_4 rfl (lv_at hl 1 rfl) ?_
  obtain ⟨q_, s1, hc, hB⟩ := bindI_inv hB
  refine q_goiT (wr := ((wG cZ cS a b b2 c0 (rgP bb) (slP bb) s.x.g) ++ (wD cI b2 s.x.t) ++ (wD cI b s.x.n))) (va_runVN (As := [.int x1]) (rest := []) C (ckX5_hasWave hc _) ⟨va_cnB 1 hts gX10_buoy_X5_hasWave_n108 rfl rfl rfl (hN _ nwM_X10_108 rfl) (hts _ LX10_buoy_I_X5) (by decide +kernel) ⟨Nat.le_of_ble_eq_true rfl, Nat.le_of_ble_eq_true rfl⟩, hts _ LX10_buoy_N_X5_hasWave, hts _ LX10_buoy_E_X5_hasWave⟩ (q_preV hK hP (ci := 5) (q0 := 19) rfl rfl rfl (q_pre hN hK hP hD [17, 18, 19, 20, 21, 22, 23, 24, 25, 26, 27, 28, 29, 30, 31, 32, 33, 34, 35, 36, 37, 38, 39, 40, 41, 42, 43, 44, 45, 46, 47, 48, 49, 50, 51, 52, 53, 54, 55, 56, 57, 58, 59, 60, 61, 62, 63] rfl (by decide))) rfl rfl hl.1 rfl (lv_room (Nat.le_of_ble_eq_true rfl)) dX10_buoy_5 ⟨Nat.le_of_ble_eq_true rfl, Nat.le_of_ble_eq_true rfl⟩) hP hD hS hA [17, 18, 19, 20, 21, 22, 23, 24, 25, 26, 27, 28, 29, 30, 31, 32, 33, 34, 35, 36, 37, 38, 39, 40, 41, 42, 43, 44, 45, 46, 47, 48, 49, 50, 51, 52, 53, 54, 55, 56, 57, 58, 59, 60, 61, 62, 63] [0, 1, 2, 3, 4, 5, 6, 7, 8, 9, 10, 11, 12, 13, 14, 15, 16] rfl rfl (by decide) (by decide) (fun r2 w1 H locs hw hP hD hS => ?_)
  obtain ⟨hq_, hw⟩ := hw; subst hw; subst hq_
  obtain ⟨s3, hs4, hB⟩ := letS_inv hB
  have hP : va_P (dC, dI) vwCl (wY cB cI cJ cZ cS a b b2 c0 bb s3) H := by subst hs4; exact hP
  have hD : va_D A (wY cB cI cJ cZ cS a b b2 c0 bb s3) := by subst hs4; exact hD
  refine lv_if_eq (tgt := 18) hx hb dX10_buoy_8 (by decide) (fun c5 => ?_) (fun c5 => ?_)
  · have hB := if_p hB c5
    refine lv_iconst (v := 0) hx hb dX10_buoy_18 (by decide) ?_
    exact q_zret C hr hlocks (Or.inl rfl) hK hP hD hS (Nat.le_of_ble_eq_true rfl) (Nat.le_of_ble_eq_true rfl) dX10_buoy_19 (by cases hB; exact ⟨rfl, rfl⟩)
  · have hB := if_n hB c5
    refine lv_iload_n hx hb dX10_buoy_11 rfl (lv_at hl 2 rfl) ?_
    obtain ⟨q_, hc, hB⟩ := bindP_inv hB
    refine q_goi0 (va_runS (As := [.int x2]) (rest := []) C (ckX10_isThing hc _) (va_cwS 1 hts gX10_buoy_X10_isThing rfl rfl rfl (by decide +kernel) ⟨Nat.le_of_ble_eq_true rfl, Nat.le_of_ble_eq_true rfl⟩) (q_pre0 hN hK) rfl rfl hl.1 rfl (lv_room (Nat.le_of_ble_eq_true rfl)) dX10_buoy_12 ⟨Nat.le_of_ble_eq_true rfl, Nat.le_of_ble_eq_true rfl⟩) hP hD hS hA (fun r6 w1 H locs hw hP hS => ?_)
    subst hw
    refine lv_if_ne (tgt := 20) hx hb dX10_buoy_15 (by decide) (fun c7 => ?_) (fun c7 => ?_)
    · have hB := if_n hB c7
      refine lv_aload_n hx hb dX10_buoy_20 rfl (lv_at hl 0 rfl) ?_
      refine q_get (v := .ref (b 0)) C inX10_buoy_X10 hK hP 0 rfl rfl 3 (by decide) rfl LX10_buoy_35 rfl dX10_buoy_21 ?_
      refine q_getN (v := .ref (b 2)) C hN inX10_buoy_X6 hK hP 11 rfl rfl 1 (by decide) rfl nwF_X10_119 rfl dX10_buoy_24 ?_
      refine lv_iload_n hx hb dX10_buoy_27 rfl (lv_at hl 1 rfl) ?_
      obtain ⟨g8, hB⟩ := guard_inv hB
      refine q_iald (x := ((s3.x.n.f 1) (Int32.toNatClampNeg x1))) C hK hP 13 1 rfl rfl (vpb_in g8) dX10_buoy_28 rfl ?_
      refine lv_iload_n hx hb dX10_buoy_29 rfl (lv_at hl 2 rfl) ?_
      obtain ⟨q_, hc, hB⟩ := bindP_inv hB
      refine q_goi0 (va_runS (As := [.int ((s3.x.n.f 1) (Int32.toNatClampNeg x1)), .int x2]) (rest := []) C (ckX10_has hc _) (va_cwS 2 hts gX10_buoy_X10_has rfl rfl rfl (by decide +kernel) ⟨Nat.le_of_ble_eq_true rfl, Nat.le_of_ble_eq_true rfl⟩) (q_pre0 hN hK) rfl rfl hl.1 rfl (lv_room (Nat.le_of_ble_eq_true rfl)) dX10_buoy_30 ⟨Nat.le_of_ble_eq_true rfl, Nat.le_of_ble_eq_true rfl⟩) hP hD hS hA (fun r9 w1 H locs hw hP hS => ?_)
      subst hw
      refine lv_iload_n hx hb dX10_buoy_33 rfl (lv_at hl 3 rfl) ?_
      refine lv_icmp_ne (tgt := 39) hx hb dX10_buoy_34 (by decide) (fun c10 => ?_) (fun c10 => ?_)
      · have hB := if_n hB c10
        refine lv_aload_n hx hb dX10_buoy_39 rfl (lv_at hl 0 rfl) ?_
        refine q_get (v := .ref (c0 1)) C inX10_buoy_X10 hK hP 0 rfl rfl 5 (by decide) rfl LX10_buoy_45 rfl dX10_buoy_40 ?_
        refine lv_aload_n hx hb dX10_buoy_43 rfl (lv_at hl 0 rfl) ?_
        refine q_get (v := .ref (b 0)) C inX10_buoy_X10 hK hP 0 rfl rfl 3 (by decide) rfl LX10_buoy_35 rfl dX10_buoy_44 ?_
        obtain ⟨s11, hc, hB⟩ := bindP_inv hB
        refine q_govP (wr := ((wD cI b2 s3.x.t) ++ (wK cB cI cJ cZ cS a s3.x.k))) (va_runVN (As := [.ref (b 0)]) (rest := []) C (ckX3_remember hc _) ⟨va_cnB 1 hts gX10_buoy_X3_remember_n173 rfl rfl rfl (hN _ nwM_X10_173 rfl) (hts _ LX10_buoy_I_X3) (by decide +kernel) ⟨Nat.le_of_ble_eq_true rfl, Nat.le_of_ble_eq_true rfl⟩, hts _ LX10_buoy_N_X3_remember, hts _ LX10_buoy_E_X3_remember⟩ (q_preV hK hP (ci := 3) (q0 := 1) rfl rfl rfl (q_preP hN hK hP hD [0, 1, 2, 3, 4, 11, 12, 13, 14, 15, 16] rfl (by decide))) rfl rfl hl.1 rfl (lv_room (Nat.le_of_ble_eq_true rfl)) dX10_buoy_47 ⟨Nat.le_of_ble_eq_true rfl, Nat.le_of_ble_eq_true rfl⟩) hP hD hS hA [0, 1, 2, 3, 4, 11, 12, 13, 14, 15, 16] [5, 6, 7, 8, 9, 10, 17, 18, 19, 20, 21, 22, 23, 24, 25, 26, 27, 28, 29, 30, 31, 32, 33, 34, 35, 36, 37, 38, 39, 40, 41, 42, 43, 44, 45, 46, 47, 48, 49, 50, 51, 52, 53, 54, 55, 56, 57, 58, 59, 60, 61, 62, 63] rfl rfl (by decide) (by decide) (fun H locs hP hD hS => ?_)
        obtain ⟨s12, hs13, hB⟩ := letS_inv hB
        have hP : va_P (dC, dI) vwCl (wY cB cI cJ cZ cS a b b2 c0 bb s12) H := by subst hs13; exact hP.part [53, 54, 55, 56, 57, 0, 1, 2, 3, 4, 5, 58, 59, 60, 61, 62, 63, 6, 7, 8, 9, 10, 11, 12, 13, 14, 15, 16, 17, 18, 19, 20, 21, 22, 23, 24, 25, 26, 27, 28, 29, 30, 31, 32, 33, 34, 35, 36, 37, 38, 39, 40, 41, 42, 43, 44, 45, 46, 47, 48, 49, 50, 51, 52] rfl
        have hD : va_D A (wY cB cI cJ cZ cS a b b2 c0 bb s12) := by subst hs13; exact hD.part [53, 54, 55, 56, 57, 0, 1, 2, 3, 4, 5, 58, 59, 60, 61, 62, 63, 6, 7, 8, 9, 10, 11, 12, 13, 14, 15, 16, 17, 18, 19, 20, 21, 22, 23, 24, 25, 26, 27, 28, 29, 30, 31, 32, 33, 34, 35, 36, 37, 38, 39, 40, 41, 42, 43, 44, 45, 46, 47, 48, 49, 50, 51, 52] (by decide) rfl
        refine lv_aload_n hx hb dX10_buoy_50 rfl (lv_at hl 0 rfl) ?_
        refine q_get (v := .ref (b 0)) C inX10_buoy_X10 hK hP 0 rfl rfl 3 (by decide) rfl LX10_buoy_35 rfl dX10_buoy_51 ?_
        refine q_getN (v := .ref (b 2)) C hN inX10_buoy_X6 hK hP 11 rfl rfl 1 (by decide) rfl nwF_X10_119 rfl dX10_buoy_54 ?_
        refine lv_iload_n hx hb dX10_buoy_57 rfl (lv_at hl 1 rfl) ?_
        refine lv_dup2_11 hx hb dX10_buoy_58 rfl rfl ?_
        obtain ⟨g14, hB⟩ := guard_inv hB
        refine q_iald (x := ((s12.x.n.f 1) (Int32.toNatClampNeg x1))) C hK hP 13 1 rfl rfl (vpb_in g14) dX10_buoy_59 rfl ?_
        refine lv_iconst (v := 1) hx hb dX10_buoy_60 (by decide) ?_
        refine lv_iload_n hx hb dX10_buoy_61 rfl (lv_at hl 2 rfl) ?_
        refine lv_ishl hx hb dX10_buoy_62 ?_
        refine lv_ixor hx hb dX10_buoy_63 ?_
        obtain ⟨g15, hB⟩ := guard_inv hB
        obtain ⟨s16, hs17, hB⟩ := letS_inv hB
        refine q_iast (f2 := (upd (s12.x.n.f 1) (Int32.toNatClampNeg x1) (((s12.x.n.f 1) (Int32.toNatClampNeg x1)) ^^^ (1 <<< (x2 &&& 31))))) (w2 := (wY cB cI cJ cZ cS a b b2 c0 bb s16)) C hK hP hD hS 13 1 rfl rfl (vpb_in g15) dX10_buoy_64 rfl (by subst hs17; rfl) (fun H locs hP hD hS => ?_)
        refine lv_iconst (v := 1) hx hb dX10_buoy_65 (by decide) ?_
        exact q_zret C hr hlocks (Or.inr rfl) hK hP hD hS (Nat.le_of_ble_eq_true rfl) (Nat.le_of_ble_eq_true rfl) dX10_buoy_66 (by cases hB; exact ⟨rfl, rfl⟩)
      · have hB := if_p hB c10
        refine lv_iconst (v := 0) hx hb dX10_buoy_37 (by decide) ?_
        exact q_zret C hr hlocks (Or.inl rfl) hK hP hD hS (Nat.le_of_ble_eq_true rfl) (Nat.le_of_ble_eq_true rfl) dX10_buoy_38 (by cases hB; exact ⟨rfl, rfl⟩)
    · have hB := if_p hB c7
      refine lv_iconst (v := 0) hx hb dX10_buoy_18 (by decide) ?_
      exact q_zret C hr hlocks (Or.inl rfl) hK hP hD hS (Nat.le_of_ble_eq_true rfl) (Nat.le_of_ble_eq_true rfl) dX10_buoy_19 (by cases hB; exact ⟨rfl, rfl⟩)
theorem ckX10_buoy {l : Launch} {dC : Nat → ClassId} {dI : Nat → Nat → Nat} {cB cI cJ cZ cS : ClassId} {a b b2 c0 : Nat → Nat} {bb : Nat → Nat → Nat} {r : Int32} {s' : YS} {s : YS} {x1 : Int32} {x2 : Int32} {x3 : Int32} (hB : kX10_buoy s x1 x2 x3 = some (r, s')) : CI l yX10_buoy wsX10_buoy ({ frames := 3, cells := 0, slots := 0, locals := 106 }) (dC, dI) (tysA cB cI cJ cZ cS) (wY cB cI cJ cZ cS a b b2 c0 bb s) [.ref (c0 0), .int x1, .int x2, .int x3] (fun x u => x = r ∧ u = (wY cB cI cJ cZ cS a b b2 c0 bb s')) :=
  CI_of (cc := cX10_buoy) (maxL := 4) (ret := (some .boolean)) (by decide) rfl (Nat.le_of_ble_eq_true rfl) (bkX10_buoy _ _ _ _ hB)
theorem LX10_fetch_19 : Cond.fieldLink RX10 19 "GuessFerry" "sound" "LGuessFerry$Sound;" ∈ wsX10_fetch := by decide +kernel
theorem LX10_fetch_35 : Cond.fieldLink RX10 35 "GuessFerry" "now" "LGuessFerry$Standing;" ∈ wsX10_fetch := by decide +kernel
theorem LX10_fetch_45 : Cond.fieldLink RX10 45 "GuessFerry" "past" "LGuessFerry$Past;" ∈ wsX10_fetch := by decide +kernel
theorem LX10_fetch_E_X3_remember : Cond.selects RX3 yX3_remember yX3_remember ∈ wsX10_fetch := by decide +kernel
theorem LX10_fetch_E_X5_hasParty : Cond.selects RX5 yX5_hasParty yX5_hasParty ∈ wsX10_fetch := by decide +kernel
theorem LX10_fetch_I_X3 : Cond.initialized RX3 ∈ wsX10_fetch := by decide +kernel
theorem LX10_fetch_I_X5 : Cond.initialized RX5 ∈ wsX10_fetch := by decide +kernel
theorem LX10_fetch_N_X3_remember : Cond.instanceMethod yX3_remember ∈ wsX10_fetch := by decide +kernel
theorem LX10_fetch_N_X5_hasParty : Cond.instanceMethod yX5_hasParty ∈ wsX10_fetch := by decide +kernel
theorem inX10_fetch_X10 : ∀ w ∈ u_ws RX10 TX10 9, w ∈ wsX10_fetch := by decide +kernel
theorem inX10_fetch_X6 : ∀ w ∈ u_ws RX6 TX6 7, w ∈ wsX10_fetch := by decide +kernel
set_option maxHeartbeats 4000000 in
set_option maxRecDepth 100000 in
theorem bkX10_fetch {l : Launch} {dC : Nat → ClassId} {dI : Nat → Nat → Nat} {cB cI cJ cZ cS : ClassId} {a b b2 c0 : Nat → Nat} {bb : Nat → Nat → Nat} {as : List Value} {r : Int32} {s' : YS} (s : YS) (x1 : Int32) (hB : kX10_fetch s x1 = some (r, s')) : BlkI l yX10_fetch wsX10_fetch ({ frames := 3, cells := 0, slots := 0, locals := 106 }) cX10_fetch 2 (some .boolean) (dC, dI) (tysA cB cI cJ cZ cS) as 0 (wY cB cI cJ cZ cS a b b2 c0 bb s) [(0, .ref (c0 0)), (1, .int x1)] [] (fun x u => x = r ∧ u = (wY cB cI cJ cZ cS a b b2 c0 bb s')) := by
  intro p e s0 m below meth c A E H locs ls hP hD hS hl
  obtain ⟨C, hr, hlocks, hA, hK, hN⟩ := id E
  obtain ⟨hx, hb, hml, hown, hts⟩ := id C
  unfold kX10_fetch at hB
  refine lv_aload_n hx hb dX10_fetch_0 rfl (lv_at hl 0 rfl) ?_
  refine q_get (v := .ref (a 2)) C inX10_fetch_X10 hK hP 0 rfl rfl 1 (by decide) rfl LX10_fetch_19 rfl dX10_fetch_1 ?_
  refine lv_iload_n hx hb dX10_fetch_4 rfl (lv_at hl 1 rfl) ?_
  obtain ⟨q_, s1, hc, hB⟩ := bindI_inv hB
  refine q_goiT (wr := ((wG cZ cS a b b2 c0 (rgP bb) (slP bb) s.x.g) ++ (wD cI b2 s.x.t) ++ (wD cI b s.x.n))) (va_runVN (As := [.int x1]) (rest := []) C (ckX5_hasParty hc _) ⟨va_cnB 1 hts gX10_fetch_X5_hasParty_n138 rfl rfl rfl (hN _ nwM_X10_138 rfl) (hts _ LX10_fetch_I_X5) (by decide +kernel) ⟨Nat.le_of_ble_eq_true rfl, Nat.le_of_ble_eq_true rfl⟩, hts _ LX10_fetch_N_X5_hasParty, hts _ LX10_fetch_E_X5_hasParty⟩ (q_preV hK hP (ci := 5) (q0 := 19) rfl rfl rfl (q_pre hN hK hP hD [17, 18, 19, 20, 21, 22, 23, 24, 25, 26, 27, 28, 29, 30, 31, 32, 33, 34, 35, 36, 37, 38, 39, 40, 41, 42, 43, 44, 45, 46, 47, 48, 49, 50, 51, 52, 53, 54, 55, 56, 57, 58, 59, 60, 61, 62, 63] rfl (by decide))) rfl rfl hl.1 rfl (lv_room (Nat.le_of_ble_eq_true rfl)) dX10_fetch_5 ⟨Nat.le_of_ble_eq_true rfl, Nat.le_of_ble_eq_true rfl⟩) hP hD hS hA [17, 18, 19, 20, 21, 22, 23, 24, 25, 26, 27, 28, 29, 30, 31, 32, 33, 34, 35, 36, 37, 38, 39, 40, 41, 42, 43, 44, 45, 46, 47, 48, 49, 50, 51, 52, 53, 54, 55, 56, 57, 58, 59, 60, 61, 62, 63] [0, 1, 2, 3, 4, 5, 6, 7, 8, 9, 10, 11, 12, 13, 14, 15, 16] rfl rfl (by decide) (by decide) (fun r2 w1 H locs hw hP hD hS => ?_)
  obtain ⟨hq_, hw⟩ := hw; subst hw; subst hq_
  obtain ⟨s3, hs4, hB⟩ := letS_inv hB
  have hP : va_P (dC, dI) vwCl (wY cB cI cJ cZ cS a b b2 c0 bb s3) H := by subst hs4; exact hP
  have hD : va_D A (wY cB cI cJ cZ cS a b b2 c0 bb s3) := by subst hs4; exact hD
  refine lv_if_eq (tgt := 23) hx hb dX10_fetch_8 (by decide) (fun c5 => ?_) (fun c5 => ?_)
  · have hB := if_p hB c5
    refine lv_iconst (v := 0) hx hb dX10_fetch_23 (by decide) ?_
    exact q_zret C hr hlocks (Or.inl rfl) hK hP hD hS (Nat.le_of_ble_eq_true rfl) (Nat.le_of_ble_eq_true rfl) dX10_fetch_24 (by cases hB; exact ⟨rfl, rfl⟩)
  · have hB := if_n hB c5
    refine lv_aload_n hx hb dX10_fetch_11 rfl (lv_at hl 0 rfl) ?_
    refine q_get (v := .ref (b 0)) C inX10_fetch_X10 hK hP 0 rfl rfl 3 (by decide) rfl LX10_fetch_35 rfl dX10_fetch_12 ?_
    refine q_getN (v := .ref (b 4)) C hN inX10_fetch_X6 hK hP 11 rfl rfl 3 (by decide) rfl nwF_X10_147 rfl dX10_fetch_15 ?_
    refine lv_iload_n hx hb dX10_fetch_18 rfl (lv_at hl 1 rfl) ?_
    obtain ⟨g6, hB⟩ := guard_inv hB
    refine q_iald (x := ((s3.x.n.f 3) (Int32.toNatClampNeg x1))) C hK hP 15 1 rfl rfl (vpb_in g6) dX10_fetch_19 rfl ?_
    refine lv_if_ne (tgt := 25) hx hb dX10_fetch_20 (by decide) (fun c7 => ?_) (fun c7 => ?_)
    · have hB := if_n hB c7
      refine lv_aload_n hx hb dX10_fetch_25 rfl (lv_at hl 0 rfl) ?_
      refine q_get (v := .ref (c0 1)) C inX10_fetch_X10 hK hP 0 rfl rfl 5 (by decide) rfl LX10_fetch_45 rfl dX10_fetch_26 ?_
      refine lv_aload_n hx hb dX10_fetch_29 rfl (lv_at hl 0 rfl) ?_
      refine q_get (v := .ref (b 0)) C inX10_fetch_X10 hK hP 0 rfl rfl 3 (by decide) rfl LX10_fetch_35 rfl dX10_fetch_30 ?_
      obtain ⟨s8, hc, hB⟩ := bindP_inv hB
      refine q_govP (wr := ((wD cI b2 s3.x.t) ++ (wK cB cI cJ cZ cS a s3.x.k))) (va_runVN (As := [.ref (b 0)]) (rest := []) C (ckX3_remember hc _) ⟨va_cnB 1 hts gX10_fetch_X3_remember_n173 rfl rfl rfl (hN _ nwM_X10_173 rfl) (hts _ LX10_fetch_I_X3) (by decide +kernel) ⟨Nat.le_of_ble_eq_true rfl, Nat.le_of_ble_eq_true rfl⟩, hts _ LX10_fetch_N_X3_remember, hts _ LX10_fetch_E_X3_remember⟩ (q_preV hK hP (ci := 3) (q0 := 1) rfl rfl rfl (q_preP hN hK hP hD [0, 1, 2, 3, 4, 11, 12, 13, 14, 15, 16] rfl (by decide))) rfl rfl hl.1 rfl (lv_room (Nat.le_of_ble_eq_true rfl)) dX10_fetch_33 ⟨Nat.le_of_ble_eq_true rfl, Nat.le_of_ble_eq_true rfl⟩) hP hD hS hA [0, 1, 2, 3, 4, 11, 12, 13, 14, 15, 16] [5, 6, 7, 8, 9, 10, 17, 18, 19, 20, 21, 22, 23, 24, 25, 26, 27, 28, 29, 30, 31, 32, 33, 34, 35, 36, 37, 38, 39, 40, 41, 42, 43, 44, 45, 46, 47, 48, 49, 50, 51, 52, 53, 54, 55, 56, 57, 58, 59, 60, 61, 62, 63] rfl rfl (by decide) (by decide) (fun H locs hP hD hS => ?_)
      obtain ⟨s9, hs10, hB⟩ := letS_inv hB
      have hP : va_P (dC, dI) vwCl (wY cB cI cJ cZ cS a b b2 c0 bb s9) H := by subst hs10; exact hP.part [53, 54, 55, 56, 57, 0, 1, 2, 3, 4, 5, 58, 59, 60, 61, 62, 63, 6, 7, 8, 9, 10, 11, 12, 13, 14, 15, 16, 17, 18, 19, 20, 21, 22, 23, 24, 25, 26, 27, 28, 29, 30, 31, 32, 33, 34, 35, 36, 37, 38, 39, 40, 41, 42, 43, 44, 45, 46, 47, 48, 49, 50, 51, 52] rfl
      have hD : va_D A (wY cB cI cJ cZ cS a b b2 c0 bb s9) := by subst hs10; exact hD.part [53, 54, 55, 56, 57, 0, 1, 2, 3, 4, 5, 58, 59, 60, 61, 62, 63, 6, 7, 8, 9, 10, 11, 12, 13, 14, 15, 16, 17, 18, 19, 20, 21, 22, 23, 24, 25, 26, 27, 28, 29, 30, 31, 32, 33, 34, 35, 36, 37, 38, 39, 40, 41, 42, 43, 44, 45, 46, 47, 48, 49, 50, 51, 52] (by decide) rfl
      refine lv_aload_n hx hb dX10_fetch_36 rfl (lv_at hl 0 rfl) ?_
      refine q_get (v := .ref (b 0)) C inX10_fetch_X10 hK hP 0 rfl rfl 3 (by decide) rfl LX10_fetch_35 rfl dX10_fetch_37 ?_
      refine q_getN (v := .ref (b 4)) C hN inX10_fetch_X6 hK hP 11 rfl rfl 3 (by decide) rfl nwF_X10_147 rfl dX10_fetch_40 ?_
      refine lv_iload_n hx hb dX10_fetch_43 rfl (lv_at hl 1 rfl) ?_
      refine lv_iconst (v := 0) hx hb dX10_fetch_44 (by decide) ?_
      obtain ⟨g11, hB⟩ := guard_inv hB
      obtain ⟨s12, hs13, hB⟩ := letS_inv hB
      refine q_iast (f2 := (upd (s9.x.n.f 3) (Int32.toNatClampNeg x1) 0)) (w2 := (wY cB cI cJ cZ cS a b b2 c0 bb s12)) C hK hP hD hS 15 1 rfl rfl (vpb_in g11) dX10_fetch_45 rfl (by subst hs13; rfl) (fun H locs hP hD hS => ?_)
      refine lv_iconst (v := 1) hx hb dX10_fetch_46 (by decide) ?_
      exact q_zret C hr hlocks (Or.inr rfl) hK hP hD hS (Nat.le_of_ble_eq_true rfl) (Nat.le_of_ble_eq_true rfl) dX10_fetch_47 (by cases hB; exact ⟨rfl, rfl⟩)
    · have hB := if_p hB c7
      refine lv_iconst (v := 0) hx hb dX10_fetch_23 (by decide) ?_
      exact q_zret C hr hlocks (Or.inl rfl) hK hP hD hS (Nat.le_of_ble_eq_true rfl) (Nat.le_of_ble_eq_true rfl) dX10_fetch_24 (by cases hB; exact ⟨rfl, rfl⟩)
theorem ckX10_fetch {l : Launch} {dC : Nat → ClassId} {dI : Nat → Nat → Nat} {cB cI cJ cZ cS : ClassId} {a b b2 c0 : Nat → Nat} {bb : Nat → Nat → Nat} {r : Int32} {s' : YS} {s : YS} {x1 : Int32} (hB : kX10_fetch s x1 = some (r, s')) : CI l yX10_fetch wsX10_fetch ({ frames := 3, cells := 0, slots := 0, locals := 106 }) (dC, dI) (tysA cB cI cJ cZ cS) (wY cB cI cJ cZ cS a b b2 c0 bb s) [.ref (c0 0), .int x1] (fun x u => x = r ∧ u = (wY cB cI cJ cZ cS a b b2 c0 bb s')) :=
  CI_of (cc := cX10_fetch) (maxL := 2) (ret := (some .boolean)) (by decide) rfl (Nat.le_of_ble_eq_true rfl) (bkX10_fetch _ _ hB)
theorem LX10_undo_35 : Cond.fieldLink RX10 35 "GuessFerry" "now" "LGuessFerry$Standing;" ∈ wsX10_undo := by decide +kernel
theorem LX10_undo_45 : Cond.fieldLink RX10 45 "GuessFerry" "past" "LGuessFerry$Past;" ∈ wsX10_undo := by decide +kernel
theorem LX10_undo_E_X3_takeBack : Cond.selects RX3 yX3_takeBack yX3_takeBack ∈ wsX10_undo := by decide +kernel
theorem LX10_undo_I_X3 : Cond.initialized RX3 ∈ wsX10_undo := by decide +kernel
theorem LX10_undo_N_X3_takeBack : Cond.instanceMethod yX3_takeBack ∈ wsX10_undo := by decide +kernel
theorem inX10_undo_X10 : ∀ w ∈ u_ws RX10 TX10 9, w ∈ wsX10_undo := by decide +kernel
set_option maxHeartbeats 4000000 in
set_option maxRecDepth 100000 in
theorem bkX10_undo {l : Launch} {dC : Nat → ClassId} {dI : Nat → Nat → Nat} {cB cI cJ cZ cS : ClassId} {a b b2 c0 : Nat → Nat} {bb : Nat → Nat → Nat} {as : List Value} {r : Int32} {s' : YS} (s : YS) (hB : kX10_undo s = some (r, s')) : BlkI l yX10_undo wsX10_undo ({ frames := 3, cells := 0, slots := 0, locals := 106 }) cX10_undo 1 (some .boolean) (dC, dI) (tysA cB cI cJ cZ cS) as 0 (wY cB cI cJ cZ cS a b b2 c0 bb s) [(0, .ref (c0 0))] [] (fun x u => x = r ∧ u = (wY cB cI cJ cZ cS a b b2 c0 bb s')) := by
  intro p e s0 m below meth c A E H locs ls hP hD hS hl
  obtain ⟨C, hr, hlocks, hA, hK, hN⟩ := id E
  obtain ⟨hx, hb, hml, hown, hts⟩ := id C
  unfold kX10_undo at hB
  refine lv_aload_n hx hb dX10_undo_0 rfl (lv_at hl 0 rfl) ?_
  refine q_get (v := .ref (c0 1)) C inX10_undo_X10 hK hP 0 rfl rfl 5 (by decide) rfl LX10_undo_45 rfl dX10_undo_1 ?_
  refine lv_aload_n hx hb dX10_undo_4 rfl (lv_at hl 0 rfl) ?_
  refine q_get (v := .ref (b 0)) C inX10_undo_X10 hK hP 0 rfl rfl 3 (by decide) rfl LX10_undo_35 rfl dX10_undo_5 ?_
  obtain ⟨q_, s1, hc, hB⟩ := bindI_inv hB
  refine q_goiP (wr := ((wD cI b2 s.x.t) ++ (wK cB cI cJ cZ cS a s.x.k))) (va_runVN (As := [.ref (b 0)]) (rest := []) C (ckX3_takeBack hc _) ⟨va_cnB 1 hts gX10_undo_X3_takeBack_n192 rfl rfl rfl (hN _ nwM_X10_192 rfl) (hts _ LX10_undo_I_X3) (by decide +kernel) ⟨Nat.le_of_ble_eq_true rfl, Nat.le_of_ble_eq_true rfl⟩, hts _ LX10_undo_N_X3_takeBack, hts _ LX10_undo_E_X3_takeBack⟩ (q_preV hK hP (ci := 3) (q0 := 1) rfl rfl rfl (q_preP hN hK hP hD [0, 1, 2, 3, 4, 11, 12, 13, 14, 15, 16] rfl (by decide))) rfl rfl hl.1 rfl (lv_room (Nat.le_of_ble_eq_true rfl)) dX10_undo_8 ⟨Nat.le_of_ble_eq_true rfl, Nat.le_of_ble_eq_true rfl⟩) hP hD hS hA [0, 1, 2, 3, 4, 11, 12, 13, 14, 15, 16] [5, 6, 7, 8, 9, 10, 17, 18, 19, 20, 21, 22, 23, 24, 25, 26, 27, 28, 29, 30, 31, 32, 33, 34, 35, 36, 37, 38, 39, 40, 41, 42, 43, 44, 45, 46, 47, 48, 49, 50, 51, 52, 53, 54, 55, 56, 57, 58, 59, 60, 61, 62, 63] rfl rfl (by decide) (by decide) (fun H locs hP hD hS => ?_)
  obtain ⟨r2, hr_⟩ : ∃ z : Int32, z = q_ := ⟨_, rfl⟩; subst hr_
  obtain ⟨s3, hs4, hB⟩ := letS_inv hB
  have hP : va_P (dC, dI) vwCl (wY cB cI cJ cZ cS a b b2 c0 bb s3) H := by subst hs4; exact hP.part [53, 54, 55, 56, 57, 0, 1, 2, 3, 4, 5, 58, 59, 60, 61, 62, 63, 6, 7, 8, 9, 10, 11, 12, 13, 14, 15, 16, 17, 18, 19, 20, 21, 22, 23, 24, 25, 26, 27, 28, 29, 30, 31, 32, 33, 34, 35, 36, 37, 38, 39, 40, 41, 42, 43, 44, 45, 46, 47, 48, 49, 50, 51, 52] rfl
  have hD : va_D A (wY cB cI cJ cZ cS a b b2 c0 bb s3) := by subst hs4; exact hD.part [53, 54, 55, 56, 57, 0, 1, 2, 3, 4, 5, 58, 59, 60, 61, 62, 63, 6, 7, 8, 9, 10, 11, 12, 13, 14, 15, 16, 17, 18, 19, 20, 21, 22, 23, 24, 25, 26, 27, 28, 29, 30, 31, 32, 33, 34, 35, 36, 37, 38, 39, 40, 41, 42, 43, 44, 45, 46, 47, 48, 49, 50, 51, 52] (by decide) rfl
  obtain ⟨z5, hB⟩ := guard_inv hB
  exact q_zret C hr hlocks z5 hK hP hD hS (Nat.le_of_ble_eq_true rfl) (Nat.le_of_ble_eq_true rfl) dX10_undo_11 (by cases hB; exact ⟨rfl, rfl⟩)
theorem ckX10_undo {l : Launch} {dC : Nat → ClassId} {dI : Nat → Nat → Nat} {cB cI cJ cZ cS : ClassId} {a b b2 c0 : Nat → Nat} {bb : Nat → Nat → Nat} {r : Int32} {s' : YS} {s : YS} (hB : kX10_undo s = some (r, s')) : CI l yX10_undo wsX10_undo ({ frames := 3, cells := 0, slots := 0, locals := 106 }) (dC, dI) (tysA cB cI cJ cZ cS) (wY cB cI cJ cZ cS a b b2 c0 bb s) [.ref (c0 0)] (fun x u => x = r ∧ u = (wY cB cI cJ cZ cS a b b2 c0 bb s')) :=
  CI_of (cc := cX10_undo) (maxL := 1) (ret := (some .boolean)) (by decide) rfl (Nat.le_of_ble_eq_true rfl) (bkX10_undo _ hB)
theorem LX10_hold_35 : Cond.fieldLink RX10 35 "GuessFerry" "now" "LGuessFerry$Standing;" ∈ wsX10_hold := by decide +kernel
theorem LX10_hold_45 : Cond.fieldLink RX10 45 "GuessFerry" "past" "LGuessFerry$Past;" ∈ wsX10_hold := by decide +kernel
theorem LX10_hold_E_X3_keepIn : Cond.selects RX3 yX3_keepIn yX3_keepIn ∈ wsX10_hold := by decide +kernel
theorem LX10_hold_I_X3 : Cond.initialized RX3 ∈ wsX10_hold := by decide +kernel
theorem LX10_hold_N_X3_keepIn : Cond.instanceMethod yX3_keepIn ∈ wsX10_hold := by decide +kernel
theorem inX10_hold_X10 : ∀ w ∈ u_ws RX10 TX10 9, w ∈ wsX10_hold := by decide +kernel
set_option maxHeartbeats 4000000 in
set_option maxRecDepth 100000 in
theorem bkX10_hold {l : Launch} {dC : Nat → ClassId} {dI : Nat → Nat → Nat} {cB cI cJ cZ cS : ClassId} {a b b2 c0 : Nat → Nat} {bb : Nat → Nat → Nat} {as : List Value} {r : Int32} {s' : YS} (s : YS) (x1 : Int32) (hB : kX10_hold s x1 = some (r, s')) : BlkI l yX10_hold wsX10_hold ({ frames := 3, cells := 0, slots := 0, locals := 107 }) cX10_hold 2 (some .boolean) (dC, dI) (tysA cB cI cJ cZ cS) as 0 (wY cB cI cJ cZ cS a b b2 c0 bb s) [(0, .ref (c0 0)), (1, .int x1)] [] (fun x u => x = r ∧ u = (wY cB cI cJ cZ cS a b b2 c0 bb s')) := by
  intro p e s0 m below meth c A E H locs ls hP hD hS hl
  obtain ⟨C, hr, hlocks, hA, hK, hN⟩ := id E
  obtain ⟨hx, hb, hml, hown, hts⟩ := id C
  unfold kX10_hold at hB
  refine lv_aload_n hx hb dX10_hold_0 rfl (lv_at hl 0 rfl) ?_
  refine q_get (v := .ref (c0 1)) C inX10_hold_X10 hK hP 0 rfl rfl 5 (by decide) rfl LX10_hold_45 rfl dX10_hold_1 ?_
  refine lv_iload_n hx hb dX10_hold_4 rfl (lv_at hl 1 rfl) ?_
  refine lv_aload_n hx hb dX10_hold_5 rfl (lv_at hl 0 rfl) ?_
  refine q_get (v := .ref (b 0)) C inX10_hold_X10 hK hP 0 rfl rfl 3 (by decide) rfl LX10_hold_35 rfl dX10_hold_6 ?_
  obtain ⟨q_, s1, hc, hB⟩ := bindI_inv hB
  refine q_goiP (wr := ((wD cI b2 s.x.t) ++ (wK cB cI cJ cZ cS a s.x.k))) (va_runVN (As := [.int x1, .ref (b 0)]) (rest := []) C (ckX3_keepIn hc _) ⟨va_cnB 2 hts gX10_hold_X3_keepIn_n282 rfl rfl rfl (hN _ nwM_X10_282 rfl) (hts _ LX10_hold_I_X3) (by decide +kernel) ⟨Nat.le_of_ble_eq_true rfl, Nat.le_of_ble_eq_true rfl⟩, hts _ LX10_hold_N_X3_keepIn, hts _ LX10_hold_E_X3_keepIn⟩ (q_preV hK hP (ci := 3) (q0 := 1) rfl rfl rfl (q_preP hN hK hP hD [0, 1, 2, 3, 4, 11, 12, 13, 14, 15, 16] rfl (by decide))) rfl rfl hl.1 rfl (lv_room (Nat.le_of_ble_eq_true rfl)) dX10_hold_9 ⟨Nat.le_of_ble_eq_true rfl, Nat.le_of_ble_eq_true rfl⟩) hP hD hS hA [0, 1, 2, 3, 4, 11, 12, 13, 14, 15, 16] [5, 6, 7, 8, 9, 10, 17, 18, 19, 20, 21, 22, 23, 24, 25, 26, 27, 28, 29, 30, 31, 32, 33, 34, 35, 36, 37, 38, 39, 40, 41, 42, 43, 44, 45, 46, 47, 48, 49, 50, 51, 52, 53, 54, 55, 56, 57, 58, 59, 60, 61, 62, 63] rfl rfl (by decide) (by decide) (fun H locs hP hD hS => ?_)
  obtain ⟨r2, hr_⟩ : ∃ z : Int32, z = q_ := ⟨_, rfl⟩; subst hr_
  obtain ⟨s3, hs4, hB⟩ := letS_inv hB
  have hP : va_P (dC, dI) vwCl (wY cB cI cJ cZ cS a b b2 c0 bb s3) H := by subst hs4; exact hP.part [53, 54, 55, 56, 57, 0, 1, 2, 3, 4, 5, 58, 59, 60, 61, 62, 63, 6, 7, 8, 9, 10, 11, 12, 13, 14, 15, 16, 17, 18, 19, 20, 21, 22, 23, 24, 25, 26, 27, 28, 29, 30, 31, 32, 33, 34, 35, 36, 37, 38, 39, 40, 41, 42, 43, 44, 45, 46, 47, 48, 49, 50, 51, 52] rfl
  have hD : va_D A (wY cB cI cJ cZ cS a b b2 c0 bb s3) := by subst hs4; exact hD.part [53, 54, 55, 56, 57, 0, 1, 2, 3, 4, 5, 58, 59, 60, 61, 62, 63, 6, 7, 8, 9, 10, 11, 12, 13, 14, 15, 16, 17, 18, 19, 20, 21, 22, 23, 24, 25, 26, 27, 28, 29, 30, 31, 32, 33, 34, 35, 36, 37, 38, 39, 40, 41, 42, 43, 44, 45, 46, 47, 48, 49, 50, 51, 52] (by decide) rfl
  obtain ⟨z5, hB⟩ := guard_inv hB
  exact q_zret C hr hlocks z5 hK hP hD hS (Nat.le_of_ble_eq_true rfl) (Nat.le_of_ble_eq_true rfl) dX10_hold_12 (by cases hB; exact ⟨rfl, rfl⟩)
theorem ckX10_hold {l : Launch} {dC : Nat → ClassId} {dI : Nat → Nat → Nat} {cB cI cJ cZ cS : ClassId} {a b b2 c0 : Nat → Nat} {bb : Nat → Nat → Nat} {r : Int32} {s' : YS} {s : YS} {x1 : Int32} (hB : kX10_hold s x1 = some (r, s')) : CI l yX10_hold wsX10_hold ({ frames := 3, cells := 0, slots := 0, locals := 107 }) (dC, dI) (tysA cB cI cJ cZ cS) (wY cB cI cJ cZ cS a b b2 c0 bb s) [.ref (c0 0), .int x1] (fun x u => x = r ∧ u = (wY cB cI cJ cZ cS a b b2 c0 bb s')) :=
  CI_of (cc := cX10_hold) (maxL := 2) (ret := (some .boolean)) (by decide) rfl (Nat.le_of_ble_eq_true rfl) (bkX10_hold _ _ hB)
theorem LX10_restore_35 : Cond.fieldLink RX10 35 "GuessFerry" "now" "LGuessFerry$Standing;" ∈ wsX10_restore := by decide +kernel
theorem LX10_restore_45 : Cond.fieldLink RX10 45 "GuessFerry" "past" "LGuessFerry$Past;" ∈ wsX10_restore := by decide +kernel
theorem LX10_restore_E_X3_goOnFrom : Cond.selects RX3 yX3_goOnFrom yX3_goOnFrom ∈ wsX10_restore := by decide +kernel
theorem LX10_restore_I_X3 : Cond.initialized RX3 ∈ wsX10_restore := by decide +kernel
theorem LX10_restore_N_X3_goOnFrom : Cond.instanceMethod yX3_goOnFrom ∈ wsX10_restore := by decide +kernel
theorem inX10_restore_X10 : ∀ w ∈ u_ws RX10 TX10 9, w ∈ wsX10_restore := by decide +kernel
set_option maxHeartbeats 4000000 in
set_option maxRecDepth 100000 in
theorem bkX10_restore {l : Launch} {dC : Nat → ClassId} {dI : Nat → Nat → Nat} {cB cI cJ cZ cS : ClassId} {a b b2 c0 : Nat → Nat} {bb : Nat → Nat → Nat} {as : List Value} {r : Int32} {s' : YS} (s : YS) (x1 : Int32) (hB : kX10_restore s x1 = some (r, s')) : BlkI l yX10_restore wsX10_restore ({ frames := 3, cells := 0, slots := 0, locals := 107 }) cX10_restore 2 (some .boolean) (dC, dI) (tysA cB cI cJ cZ cS) as 0 (wY cB cI cJ cZ cS a b b2 c0 bb s) [(0, .ref (c0 0)), (1, .int x1)] [] (fun x u => x = r ∧ u = (wY cB cI cJ cZ cS a b b2 c0 bb s')) := by
  intro p e s0 m below meth c A E H locs ls hP hD hS hl
  obtain ⟨C, hr, hlocks, hA, hK, hN⟩ := id E
  obtain ⟨hx, hb, hml, hown, hts⟩ := id C
  unfold kX10_restore at hB
  refine lv_aload_n hx hb dX10_restore_0 rfl (lv_at hl 0 rfl) ?_
  refine q_get (v := .ref (c0 1)) C inX10_restore_X10 hK hP 0 rfl rfl 5 (by decide) rfl LX10_restore_45 rfl dX10_restore_1 ?_
  refine lv_iload_n hx hb dX10_restore_4 rfl (lv_at hl 1 rfl) ?_
  refine lv_aload_n hx hb dX10_restore_5 rfl (lv_at hl 0 rfl) ?_
  refine q_get (v := .ref (b 0)) C inX10_restore_X10 hK hP 0 rfl rfl 3 (by decide) rfl LX10_restore_35 rfl dX10_restore_6 ?_
  obtain ⟨q_, s1, hc, hB⟩ := bindI_inv hB
  refine q_goiP (wr := ((wD cI b2 s.x.t) ++ (wK cB cI cJ cZ cS a s.x.k))) (va_runVN (As := [.int x1, .ref (b 0)]) (rest := []) C (ckX3_goOnFrom hc _) ⟨va_cnB 2 hts gX10_restore_X3_goOnFrom_n286 rfl rfl rfl (hN _ nwM_X10_286 rfl) (hts _ LX10_restore_I_X3) (by decide +kernel) ⟨Nat.le_of_ble_eq_true rfl, Nat.le_of_ble_eq_true rfl⟩, hts _ LX10_restore_N_X3_goOnFrom, hts _ LX10_restore_E_X3_goOnFrom⟩ (q_preV hK hP (ci := 3) (q0 := 1) rfl rfl rfl (q_preP hN hK hP hD [0, 1, 2, 3, 4, 11, 12, 13, 14, 15, 16] rfl (by decide))) rfl rfl hl.1 rfl (lv_room (Nat.le_of_ble_eq_true rfl)) dX10_restore_9 ⟨Nat.le_of_ble_eq_true rfl, Nat.le_of_ble_eq_true rfl⟩) hP hD hS hA [0, 1, 2, 3, 4, 11, 12, 13, 14, 15, 16] [5, 6, 7, 8, 9, 10, 17, 18, 19, 20, 21, 22, 23, 24, 25, 26, 27, 28, 29, 30, 31, 32, 33, 34, 35, 36, 37, 38, 39, 40, 41, 42, 43, 44, 45, 46, 47, 48, 49, 50, 51, 52, 53, 54, 55, 56, 57, 58, 59, 60, 61, 62, 63] rfl rfl (by decide) (by decide) (fun H locs hP hD hS => ?_)
  obtain ⟨r2, hr_⟩ : ∃ z : Int32, z = q_ := ⟨_, rfl⟩; subst hr_
  obtain ⟨s3, hs4, hB⟩ := letS_inv hB
  have hP : va_P (dC, dI) vwCl (wY cB cI cJ cZ cS a b b2 c0 bb s3) H := by subst hs4; exact hP.part [53, 54, 55, 56, 57, 0, 1, 2, 3, 4, 5, 58, 59, 60, 61, 62, 63, 6, 7, 8, 9, 10, 11, 12, 13, 14, 15, 16, 17, 18, 19, 20, 21, 22, 23, 24, 25, 26, 27, 28, 29, 30, 31, 32, 33, 34, 35, 36, 37, 38, 39, 40, 41, 42, 43, 44, 45, 46, 47, 48, 49, 50, 51, 52] rfl
  have hD : va_D A (wY cB cI cJ cZ cS a b b2 c0 bb s3) := by subst hs4; exact hD.part [53, 54, 55, 56, 57, 0, 1, 2, 3, 4, 5, 58, 59, 60, 61, 62, 63, 6, 7, 8, 9, 10, 11, 12, 13, 14, 15, 16, 17, 18, 19, 20, 21, 22, 23, 24, 25, 26, 27, 28, 29, 30, 31, 32, 33, 34, 35, 36, 37, 38, 39, 40, 41, 42, 43, 44, 45, 46, 47, 48, 49, 50, 51, 52] (by decide) rfl
  obtain ⟨z5, hB⟩ := guard_inv hB
  exact q_zret C hr hlocks z5 hK hP hD hS (Nat.le_of_ble_eq_true rfl) (Nat.le_of_ble_eq_true rfl) dX10_restore_12 (by cases hB; exact ⟨rfl, rfl⟩)
theorem ckX10_restore {l : Launch} {dC : Nat → ClassId} {dI : Nat → Nat → Nat} {cB cI cJ cZ cS : ClassId} {a b b2 c0 : Nat → Nat} {bb : Nat → Nat → Nat} {r : Int32} {s' : YS} {s : YS} {x1 : Int32} (hB : kX10_restore s x1 = some (r, s')) : CI l yX10_restore wsX10_restore ({ frames := 3, cells := 0, slots := 0, locals := 107 }) (dC, dI) (tysA cB cI cJ cZ cS) (wY cB cI cJ cZ cS a b b2 c0 bb s) [.ref (c0 0), .int x1] (fun x u => x = r ∧ u = (wY cB cI cJ cZ cS a b b2 c0 bb s')) :=
  CI_of (cc := cX10_restore) (maxL := 2) (ret := (some .boolean)) (by decide) rfl (Nat.le_of_ble_eq_true rfl) (bkX10_restore _ _ hB)
theorem LX4_readProduct_12 : Cond.fieldLink RX4 12 "GuessFerry$Reader" "draft" "LGuessFerry$Sound;" ∈ wsX4_readProduct := by decide +kernel
theorem LX4_readProduct_31 : Cond.fieldLink RX4 31 "GuessFerry$Reader" "tokens" "LGuessFerry$Tokens;" ∈ wsX4_readProduct := by decide +kernel
theorem LX4_readProduct_38 : Cond.fieldLink RX4 38 "GuessFerry$Reader" "at" "I" ∈ wsX4_readProduct := by decide +kernel
theorem LX4_readProduct_E_X1_putSign : Cond.selects RX1 yX1_putSign yX1_putSign ∈ wsX4_readProduct := by decide +kernel
theorem LX4_readProduct_I_X1 : Cond.initialized RX1 ∈ wsX4_readProduct := by decide +kernel
theorem LX4_readProduct_N_X1_putSign : Cond.instanceMethod yX1_putSign ∈ wsX4_readProduct := by decide +kernel
theorem inX4_readProduct_X4 : ∀ w ∈ u_ws RX4 TX4 8, w ∈ wsX4_readProduct := by decide +kernel
theorem inX4_readProduct_X5 : ∀ w ∈ u_ws RX5 TX5 10, w ∈ wsX4_readProduct := by decide +kernel
theorem inX4_readProduct_X9 : ∀ w ∈ u_ws RX9 TX9 7, w ∈ wsX4_readProduct := by decide +kernel
set_option maxHeartbeats 4000000 in
set_option maxRecDepth 100000 in
theorem bkX4_readProduct_32 {l : Launch} {dC : Nat → ClassId} {dI : Nat → Nat → Nat} {cB cI cJ cZ cS : ClassId} {a : Nat → Nat} {R : KS → Int32 → Option KS} {fr lo : Nat} (hR : ∀ {s : KS} {x1 : Int32} {s' : KS}, R s x1 = some s' → CV l yX4_readSum wsX4_readSum ({ frames := fr, cells := 0, slots := 0, locals := lo }) (dC, dI) (tysA cB cI cJ cZ cS) (wK cB cI cJ cZ cS a s) [.ref (a 28), .int x1] (fun u => u = wK cB cI cJ cZ cS a s')) (hfr : 2 ≤ fr) (hlo : 42 ≤ lo) {as : List Value} {s' : KS} {k7 : KS → Int32 → Int32 → Option KS} (hk7 : ∀ (s : KS) (x1 : Int32) (x2 : Int32), k7 s x1 x2 = some s' → BlkV l yX4_readProduct wsX4_readProduct ({ frames := fr + 2, cells := 0, slots := 0, locals := lo + 46 }) cX4_readProduct 4 none (dC, dI) (tysA cB cI cJ cZ cS) as 7 (wK cB cI cJ cZ cS a s) [(0, .ref (a 28)), (1, .int x1), (2, .int x2)] [] (fun u => u = (wK cB cI cJ cZ cS a s'))) (s : KS) (x1 : Int32) (x2 : Int32) (hB : kX4_readProduct_32 R k7 s x1 x2 = some s') : BlkV l yX4_readProduct wsX4_readProduct ({ frames := fr + 2, cells := 0, slots := 0, locals := lo + 46 }) cX4_readProduct 4 none (dC, dI) (tysA cB cI cJ cZ cS) as 32 (wK cB cI cJ cZ cS a s) [(0, .ref (a 28)), (1, .int x1), (2, .int x2)] [] (fun u => u = (wK cB cI cJ cZ cS a s')) := by
  intro p e s0 m below meth c A E H locs ls hP hD hS hl
  obtain ⟨C, hr, hlocks, hA, hK, hN⟩ := id E
  obtain ⟨hx, hb, hml, hown, hts⟩ := id C
  unfold kX4_readProduct_32 at hB
  refine lv_aload_n hx hb dX4_readProduct_32 rfl (lv_at hl 0 rfl) ?_
  refine q_get (v := .ref (a 30)) C inX4_readProduct_X4 hK hP 28 rfl rfl 0 (by decide) rfl LX4_readProduct_31 rfl dX4_readProduct_33 ?_
  refine q_getN (v := .ref (a 32)) C hN inX4_readProduct_X9 hK hP 30 rfl rfl 2 (by decide) rfl nwF_X4_63 rfl dX4_readProduct_36 ?_
  refine lv_aload_n hx hb dX4_readProduct_39 rfl (lv_at hl 0 rfl) ?_
  refine q_get (v := .int (s.v 15)) C inX4_readProduct_X4 hK hP 28 rfl rfl 3 (by decide) rfl LX4_readProduct_38 rfl dX4_readProduct_40 ?_
  obtain ⟨g1, hB⟩ := guard_inv hB
  refine q_iald (x := ((s.f 32) (Int32.toNatClampNeg (s.v 15)))) C hK hP 32 1 rfl rfl (vpb_in g1) dX4_readProduct_43 rfl ?_
  refine lv_istore_n (lv' := [(3, .int ((s.f 32) (Int32.toNatClampNeg (s.v 15)))), (0, .ref (a 28)), (1, .int x1), (2, .int x2)]) hx hb dX4_readProduct_44 rfl hl (by decide) rfl (fun ls hl => ?_)
  refine lv_aload_n hx hb dX4_readProduct_45 rfl (lv_at hl 1 rfl) ?_
  refine lv_iload_n hx hb dX4_readProduct_46 rfl (lv_at hl 0 rfl) ?_
  obtain ⟨s2, hc, hB⟩ := bindP_inv hB
  refine q_govF (va_runV (As := [.int ((s.f 32) (Int32.toNatClampNeg (s.v 15)))]) (rest := []) C (ckX4_take hc _) (cwV 1 hts gX4_readProduct_X4_take rfl rfl rfl (by decide +kernel) ⟨by dsimp only; omega, by dsimp only; omega⟩) (q_preV hK hP (ci := 4) (q0 := 28) rfl rfl rfl (q_preF hN hK hP hD)) rfl rfl hl.1 rfl (lv_room (Nat.le_of_ble_eq_true rfl)) dX4_readProduct_47 ⟨Nat.le_of_ble_eq_true rfl, Nat.le_of_ble_eq_true rfl⟩) hD hS hA (fun w1 H locs hw hP hD hS => ?_)
  subst hw
  refine lv_aload_n hx hb dX4_readProduct_50 rfl (lv_at hl 1 rfl) ?_
  refine lv_iload_n hx hb dX4_readProduct_51 rfl (lv_at hl 2 rfl) ?_
  obtain ⟨s3, hc, hB⟩ := bindP_inv hB
  refine q_govF (va_runV (As := [.int x1]) (rest := []) C (ckX4_readUnit hR (by omega) (by omega) hc _) (cwV 1 hts gX4_readProduct_X4_readUnit rfl rfl rfl (by decide +kernel) ⟨by dsimp only; omega, by dsimp only; omega⟩) (q_preV hK hP (ci := 4) (q0 := 28) rfl rfl rfl (q_preF hN hK hP hD)) rfl rfl hl.1 rfl (lv_room (Nat.le_of_ble_eq_true rfl)) dX4_readProduct_52 ⟨Nat.le_of_ble_eq_true rfl, Nat.le_of_ble_eq_true rfl⟩) hD hS hA (fun w1 H locs hw hP hD hS => ?_)
  subst hw
  refine lv_aload_n hx hb dX4_readProduct_55 rfl (lv_at hl 1 rfl) ?_
  refine q_get (v := .ref (a 15)) C inX4_readProduct_X4 hK hP 28 rfl rfl 1 (by decide) rfl LX4_readProduct_12 rfl dX4_readProduct_56 ?_
  refine q_getN (v := .ref (a 21)) C hN inX4_readProduct_X5 hK hP 15 rfl rfl 5 (by decide) rfl nwF_X4_119 rfl dX4_readProduct_59 ?_
  refine lv_iload_n hx hb dX4_readProduct_62 rfl (lv_at hl 0 rfl) ?_
  obtain ⟨s4, hc, hB⟩ := bindP_inv hB
  refine q_govF (va_runVN (As := [.int ((s.f 32) (Int32.toNatClampNeg (s.v 15)))]) (rest := []) C (ckX1_putSign hc _) ⟨va_cnB 1 hts gX4_readProduct_X1_putSign_n140 rfl rfl rfl (hN _ nwM_X4_140 rfl) (hts _ LX4_readProduct_I_X1) (by decide +kernel) ⟨by dsimp only; omega, by dsimp only; omega⟩, hts _ LX4_readProduct_N_X1_putSign, hts _ LX4_readProduct_E_X1_putSign⟩ (q_preV hK hP (ci := 1) (q0 := 21) rfl rfl rfl (q_preF hN hK hP hD)) rfl rfl hl.1 rfl (lv_room (Nat.le_of_ble_eq_true rfl)) dX4_readProduct_63 ⟨Nat.le_of_ble_eq_true rfl, Nat.le_of_ble_eq_true rfl⟩) hD hS hA (fun w1 H locs hw hP hD hS => ?_)
  subst hw
  refine lv_iinc (v := (x2 + 1)) (lv' := [(2, .int (x2 + 1)), (3, .int ((s.f 32) (Int32.toNatClampNeg (s.v 15)))), (0, .ref (a 28)), (1, .int x1)]) hx hb dX4_readProduct_66 hl (k := 3) rfl (rfl) (by decide) rfl (fun ls hl => ?_)
  refine lv_goto (tgt := 7) hx hb dX4_readProduct_69 (by decide) ?_
  exact hk7 _ _ _ hB p e s0 m below meth c A E H locs ls hP hD hS (lv_sub hl [2, 3, 0] rfl)
set_option maxHeartbeats 4000000 in
set_option maxRecDepth 100000 in
theorem bkX4_readProduct_7 {l : Launch} {dC : Nat → ClassId} {dI : Nat → Nat → Nat} {cB cI cJ cZ cS : ClassId} {a : Nat → Nat} {R : KS → Int32 → Option KS} {fr lo : Nat} (hR : ∀ {s : KS} {x1 : Int32} {s' : KS}, R s x1 = some s' → CV l yX4_readSum wsX4_readSum ({ frames := fr, cells := 0, slots := 0, locals := lo }) (dC, dI) (tysA cB cI cJ cZ cS) (wK cB cI cJ cZ cS a s) [.ref (a 28), .int x1] (fun u => u = wK cB cI cJ cZ cS a s')) (hfr : 2 ≤ fr) (hlo : 42 ≤ lo) {as : List Value} {s' : KS} {k7 : KS → Int32 → Int32 → Option KS} (hk7 : ∀ (s : KS) (x1 : Int32) (x2 : Int32), k7 s x1 x2 = some s' → BlkV l yX4_readProduct wsX4_readProduct ({ frames := fr + 2, cells := 0, slots := 0, locals := lo + 46 }) cX4_readProduct 4 none (dC, dI) (tysA cB cI cJ cZ cS) as 7 (wK cB cI cJ cZ cS a s) [(0, .ref (a 28)), (1, .int x1), (2, .int x2)] [] (fun u => u = (wK cB cI cJ cZ cS a s'))) (s : KS) (x1 : Int32) (x2 : Int32) (hB : kX4_readProduct_7 R k7 s x1 x2 = some s') : BlkV l yX4_readProduct wsX4_readProduct ({ frames := fr + 2, cells := 0, slots := 0, locals := lo + 46 }) cX4_readProduct 4 none (dC, dI) (tysA cB cI cJ cZ cS) as 7 (wK cB cI cJ cZ cS a s) [(0, .ref (a 28)), (1, .int x1), (2, .int x2)] [] (fun u => u = (wK cB cI cJ cZ cS a s')) := by
  intro p e s0 m below meth c A E H locs ls hP hD hS hl
  obtain ⟨C, hr, hlocks, hA, hK, hN⟩ := id E
  obtain ⟨hx, hb, hml, hown, hts⟩ := id C
  unfold kX4_readProduct_7 at hB
  refine lv_iload_n hx hb dX4_readProduct_7 rfl (lv_at hl 2 rfl) ?_
  refine lv_sipush (v := 400) hx hb dX4_readProduct_8 (by decide) ?_
  refine lv_icmp_ge (tgt := 72) hx hb dX4_readProduct_11 (by decide) (fun c1 => ?_) (fun c1 => ?_)
  · have hB := if_p hB c1
    exact q_vret C hr hlocks hK hP hD hS (Nat.le_of_ble_eq_true rfl) (Nat.le_of_ble_eq_true rfl) dX4_readProduct_72 (by cases hB; rfl)
  · have hB := if_n hB c1
    refine lv_aload_n hx hb dX4_readProduct_14 rfl (lv_at hl 0 rfl) ?_
    refine lv_bipush (v := 42) hx hb dX4_readProduct_15 (by decide) ?_
    obtain ⟨q_, s2, hc, hB⟩ := bindI_inv hB
    refine q_goiF (va_runV (As := [.int 42]) (rest := []) C (ckX4_isAt hc _) (cwV 1 hts gX4_readProduct_X4_isAt rfl rfl rfl (by decide +kernel) ⟨by dsimp only; omega, by dsimp only; omega⟩) (q_preV hK hP (ci := 4) (q0 := 28) rfl rfl rfl (q_preF hN hK hP hD)) rfl rfl hl.1 rfl (lv_room (Nat.le_of_ble_eq_true rfl)) dX4_readProduct_17 ⟨Nat.le_of_ble_eq_true rfl, Nat.le_of_ble_eq_true rfl⟩) hD hS hA (fun r3 w1 H locs hw hP hD hS => ?_)
    obtain ⟨hq_, hw⟩ := hw; subst hw; subst hq_
    refine lv_if_ne (tgt := 32) hx hb dX4_readProduct_20 (by decide) (fun c4 => ?_) (fun c4 => ?_)
    · have hB := if_n hB c4
      exact bkX4_readProduct_32 hR hfr hlo (hk7) _ _ _ hB p e s0 m below meth c A E H locs ls hP hD hS (lv_sub hl [0, 1, 2] rfl)
    · have hB := if_p hB c4
      refine lv_aload_n hx hb dX4_readProduct_23 rfl (lv_at hl 0 rfl) ?_
      refine lv_bipush (v := 47) hx hb dX4_readProduct_24 (by decide) ?_
      obtain ⟨q_, s5, hc, hB⟩ := bindI_inv hB
      refine q_goiF (va_runV (As := [.int 47]) (rest := []) C (ckX4_isAt hc _) (cwV 1 hts gX4_readProduct_X4_isAt rfl rfl rfl (by decide +kernel) ⟨by dsimp only; omega, by dsimp only; omega⟩) (q_preV hK hP (ci := 4) (q0 := 28) rfl rfl rfl (q_preF hN hK hP hD)) rfl rfl hl.1 rfl (lv_room (Nat.le_of_ble_eq_true rfl)) dX4_readProduct_26 ⟨Nat.le_of_ble_eq_true rfl, Nat.le_of_ble_eq_true rfl⟩) hD hS hA (fun r6 w1 H locs hw hP hD hS => ?_)
      obtain ⟨hq_, hw⟩ := hw; subst hw; subst hq_
      refine lv_if_eq (tgt := 72) hx hb dX4_readProduct_29 (by decide) (fun c7 => ?_) (fun c7 => ?_)
      · have hB := if_p hB c7
        exact q_vret C hr hlocks hK hP hD hS (Nat.le_of_ble_eq_true rfl) (Nat.le_of_ble_eq_true rfl) dX4_readProduct_72 (by cases hB; rfl)
      · have hB := if_n hB c7
        exact bkX4_readProduct_32 hR hfr hlo (hk7) _ _ _ hB p e s0 m below meth c A E H locs ls hP hD hS (lv_sub hl [0, 1, 2] rfl)
theorem bkX4_readProduct_7L {l : Launch} {dC : Nat → ClassId} {dI : Nat → Nat → Nat} {cB cI cJ cZ cS : ClassId} {a : Nat → Nat} {R : KS → Int32 → Option KS} {fr lo : Nat} (hR : ∀ {s : KS} {x1 : Int32} {s' : KS}, R s x1 = some s' → CV l yX4_readSum wsX4_readSum ({ frames := fr, cells := 0, slots := 0, locals := lo }) (dC, dI) (tysA cB cI cJ cZ cS) (wK cB cI cJ cZ cS a s) [.ref (a 28), .int x1] (fun u => u = wK cB cI cJ cZ cS a s')) (hfr : 2 ≤ fr) (hlo : 42 ≤ lo) {as : List Value} {s' : KS} : ∀ (n : Nat) (s : KS) (x1 : Int32) (x2 : Int32), kX4_readProduct_7L R n s x1 x2 = some s' → BlkV l yX4_readProduct wsX4_readProduct ({ frames := fr + 2, cells := 0, slots := 0, locals := lo + 46 }) cX4_readProduct 4 none (dC, dI) (tysA cB cI cJ cZ cS) as 7 (wK cB cI cJ cZ cS a s) [(0, .ref (a 28)), (1, .int x1), (2, .int x2)] [] (fun u => u = (wK cB cI cJ cZ cS a s')) := by
  intro n
  induction n with
  | zero => intro s x1 x2 hB; exact none_ne hB
  | succ n ih => intro s x1 x2 hB; exact bkX4_readProduct_7 hR hfr hlo ih _ _ _ hB
set_option maxHeartbeats 4000000 in
set_option maxRecDepth 100000 in
theorem bkX4_readProduct {l : Launch} {dC : Nat → ClassId} {dI : Nat → Nat → Nat} {cB cI cJ cZ cS : ClassId} {a : Nat → Nat} {R : KS → Int32 → Option KS} {fr lo : Nat} (hR : ∀ {s : KS} {x1 : Int32} {s' : KS}, R s x1 = some s' → CV l yX4_readSum wsX4_readSum ({ frames := fr, cells := 0, slots := 0, locals := lo }) (dC, dI) (tysA cB cI cJ cZ cS) (wK cB cI cJ cZ cS a s) [.ref (a 28), .int x1] (fun u => u = wK cB cI cJ cZ cS a s')) (hfr : 2 ≤ fr) (hlo : 42 ≤ lo) {as : List Value} {s' : KS} (s : KS) (x1 : Int32) (hB : kX4_readProduct R s x1 = some s') : BlkV l yX4_readProduct wsX4_readProduct ({ frames := fr + 2, cells := 0, slots := 0, locals := lo + 46 }) cX4_readProduct 4 none (dC, dI) (tysA cB cI cJ cZ cS) as 0 (wK cB cI cJ cZ cS a s) [(0, .ref (a 28)), (1, .int x1)] [] (fun u => u = (wK cB cI cJ cZ cS a s')) := by
  intro p e s0 m below meth c A E H locs ls hP hD hS hl
  obtain ⟨C, hr, hlocks, hA, hK, hN⟩ := id E
  obtain ⟨hx, hb, hml, hown, hts⟩ := id C
  unfold kX4_readProduct at hB
  refine lv_aload_n hx hb dX4_readProduct_0 rfl (lv_at hl 0 rfl) ?_
  refine lv_iload_n hx hb dX4_readProduct_1 rfl (lv_at hl 1 rfl) ?_
  obtain ⟨s1, hc, hB⟩ := bindP_inv hB
  refine q_govF (va_runV (As := [.int x1]) (rest := []) C (ckX4_readUnit hR (by omega) (by omega) hc _) (cwV 1 hts gX4_readProduct_X4_readUnit rfl rfl rfl (by decide +kernel) ⟨by dsimp only; omega, by dsimp only; omega⟩) (q_preV hK hP (ci := 4) (q0 := 28) rfl rfl rfl (q_preF hN hK hP hD)) rfl rfl hl.1 rfl (lv_room (Nat.le_of_ble_eq_true rfl)) dX4_readProduct_2 ⟨Nat.le_of_ble_eq_true rfl, Nat.le_of_ble_eq_true rfl⟩) hD hS hA (fun w1 H locs hw hP hD hS => ?_)
  subst hw
  refine lv_iconst (v := 0) hx hb dX4_readProduct_5 (by decide) ?_
  refine lv_istore_n (lv' := [(2, .int 0), (0, .ref (a 28)), (1, .int x1)]) hx hb dX4_readProduct_6 rfl hl (by decide) rfl (fun ls hl => ?_)
  exact bkX4_readProduct_7L hR hfr hlo fu _ _ _ hB p e s0 m below meth c A E H locs ls hP hD hS (lv_sub hl [1, 2, 0] rfl)
theorem ckX4_readProduct {l : Launch} {dC : Nat → ClassId} {dI : Nat → Nat → Nat} {cB cI cJ cZ cS : ClassId} {a : Nat → Nat} {R : KS → Int32 → Option KS} {fr lo : Nat} (hR : ∀ {s : KS} {x1 : Int32} {s' : KS}, R s x1 = some s' → CV l yX4_readSum wsX4_readSum ({ frames := fr, cells := 0, slots := 0, locals := lo }) (dC, dI) (tysA cB cI cJ cZ cS) (wK cB cI cJ cZ cS a s) [.ref (a 28), .int x1] (fun u => u = wK cB cI cJ cZ cS a s')) (hfr : 2 ≤ fr) (hlo : 42 ≤ lo) {s' : KS} {s : KS} {x1 : Int32} (hB : kX4_readProduct R s x1 = some s') : CV l yX4_readProduct wsX4_readProduct ({ frames := fr + 2, cells := 0, slots := 0, locals := lo + 46 }) (dC, dI) (tysA cB cI cJ cZ cS) (wK cB cI cJ cZ cS a s) [.ref (a 28), .int x1] (fun u => u = (wK cB cI cJ cZ cS a s')) :=
  CV_of (cc := cX4_readProduct) (maxL := 4) (ret := none) (by decide) rfl (Nat.le_of_ble_eq_true rfl) (bkX4_readProduct hR hfr hlo _ _ hB)
theorem LX9_split_13 : Cond.fieldLink RX9 13 "GuessFerry$Tokens" "kinds" "[I" ∈ wsX9_split := by decide +kernel
theorem LX9_split_17 : Cond.fieldLink RX9 17 "GuessFerry$Tokens" "starts" "[I" ∈ wsX9_split := by decide +kernel
theorem LX9_split_20 : Cond.fieldLink RX9 20 "GuessFerry$Tokens" "values" "[J" ∈ wsX9_split := by decide +kernel
theorem LX9_split_47 : Cond.fieldLink RX9 47 "GuessFerry$Tokens" "end" "I" ∈ wsX9_split := by decide +kernel
theorem LX9_split_57 : Cond.fieldLink RX9 57 "GuessFerry$Tokens" "value" "J" ∈ wsX9_split := by decide +kernel
theorem inX9_split_X9 : ∀ w ∈ u_ws RX9 TX9 7, w ∈ wsX9_split := by decide +kernel
set_option maxHeartbeats 4000000 in
set_option maxRecDepth 100000 in
theorem bkX9_split_36 {l : Launch} {dC : Nat → ClassId} {dI : Nat → Nat → Nat} {cB cI cJ cZ cS : ClassId} {ak av : Nat} {a : Nat → Nat} {as : List Value} {s' : KS} {k11 : KS → Int32 → Int32 → Option KS} (hk11 : ∀ (s : KS) (x1 : Int32) (x2 : Int32), k11 s x1 x2 = some s' → BlkVS ak av l yX9_split wsX9_split ({ frames := 5, cells := 0, slots := 0, locals := 112 }) cX9_split 3 none (dC, dI) (tysA cB cI cJ cZ cS) as 11 (wK cB cI cJ cZ cS a s) [(0, .ref (a 30)), (1, .int x1), (2, .int x2)] [] (fun u => u = (wK cB cI cJ cZ cS a s'))) (s : KS) (x2 : Int32) (hB : kX9_split_36 k11 s x2 = some s') : BlkVS ak av l yX9_split wsX9_split ({ frames := 5, cells := 0, slots := 0, locals := 112 }) cX9_split 3 none (dC, dI) (tysA cB cI cJ cZ cS) as 36 (wK cB cI cJ cZ cS a s) [(0, .ref (a 30)), (2, .int x2)] [] (fun u => u = (wK cB cI cJ cZ cS a s')) := by
  intro p e s0 m below meth c A E hX H locs ls hP hD hS hl
  obtain ⟨C, hr, hlocks, hA, hK, hN⟩ := id E
  obtain ⟨hx, hb, hml, hown, hts⟩ := id C
  unfold kX9_split_36 at hB
  refine lv_aload_n hx hb dX9_split_36 rfl (lv_at hl 0 rfl) ?_
  obtain ⟨s1, hc, hB⟩ := bindP_inv hB
  refine q_govF (va_runV (As := []) (rest := []) C (ckX9_skipBlanks hc _) (cwV 0 hts gX9_split_X9_skipBlanks rfl rfl rfl (by decide +kernel) ⟨Nat.le_of_ble_eq_true rfl, Nat.le_of_ble_eq_true rfl⟩) (q_preV hK hP (ci := 9) (q0 := 30) rfl rfl rfl (q_preF hN hK hP hD)) rfl rfl hl.1 rfl (lv_room (Nat.le_of_ble_eq_true rfl)) dX9_split_37 ⟨Nat.le_of_ble_eq_true rfl, Nat.le_of_ble_eq_true rfl⟩) hD hS hA (fun w1 H locs hw hP hD hS => ?_)
  subst hw
  refine lv_aload_n hx hb dX9_split_40 rfl (lv_at hl 0 rfl) ?_
  refine q_get (v := .ref (a 33)) C inX9_split_X9 hK hP 30 rfl rfl 3 (by decide) rfl LX9_split_17 rfl dX9_split_41 ?_
  refine lv_iload_n hx hb dX9_split_44 rfl (lv_at hl 1 rfl) ?_
  refine lv_aload_n hx hb dX9_split_45 rfl (lv_at hl 0 rfl) ?_
  refine q_get (v := .int (s1.v 20)) C inX9_split_X9 hK hP 30 rfl rfl 5 (by decide) rfl LX9_split_47 rfl dX9_split_46 ?_
  obtain ⟨g2, hB⟩ := guard_inv hB
  obtain ⟨s3, hs4, hB⟩ := letS_inv hB
  refine q_iast (f2 := (upd (s1.f 33) (Int32.toNatClampNeg x2) (s1.v 20))) (w2 := (wK cB cI cJ cZ cS a s3)) C hK hP hD hS 33 1 rfl rfl (vpb_in g2) dX9_split_49 rfl (by subst hs4; rfl) (fun H locs hP hD hS => ?_)
  refine lv_aload_n hx hb dX9_split_50 rfl (lv_at hl 0 rfl) ?_
  obtain ⟨q_, s5, hc, hB⟩ := bindI_inv hB
  refine q_goiF (va_runV (As := []) (rest := []) C (ckX9_splitOne hc _) (cwV 0 hts gX9_split_X9_splitOne rfl rfl rfl (by decide +kernel) ⟨Nat.le_of_ble_eq_true rfl, Nat.le_of_ble_eq_true rfl⟩) (q_preV hK hP (ci := 9) (q0 := 30) rfl rfl rfl (q_preSF hN hK hP hD hS hA hX)) rfl rfl hl.1 rfl (lv_room (Nat.le_of_ble_eq_true rfl)) dX9_split_51 ⟨Nat.le_of_ble_eq_true rfl, Nat.le_of_ble_eq_true rfl⟩) hD hS hA (fun r6 w1 H locs hw hP hD hS => ?_)
  obtain ⟨hq_, hw⟩ := hw; subst hw; subst hq_
  refine lv_istore_n (lv' := [(1, .int r6), (0, .ref (a 30)), (2, .int x2)]) hx hb dX9_split_54 rfl hl (by decide) rfl (fun ls hl => ?_)
  refine lv_aload_n hx hb dX9_split_55 rfl (lv_at hl 1 rfl) ?_
  refine q_get (v := .ref (a 32)) C inX9_split_X9 hK hP 30 rfl rfl 2 (by decide) rfl LX9_split_13 rfl dX9_split_56 ?_
  refine lv_iload_n hx hb dX9_split_59 rfl (lv_at hl 2 rfl) ?_
  refine lv_iload_n hx hb dX9_split_60 rfl (lv_at hl 0 rfl) ?_
  obtain ⟨g7, hB⟩ := guard_inv hB
  obtain ⟨s8, hs9, hB⟩ := letS_inv hB
  refine q_iast (f2 := (upd (s5.f 32) (Int32.toNatClampNeg x2) r6)) (w2 := (wK cB cI cJ cZ cS a s8)) C hK hP hD hS 32 1 rfl rfl (vpb_in g7) dX9_split_61 rfl (by subst hs9; rfl) (fun H locs hP hD hS => ?_)
  refine lv_aload_n hx hb dX9_split_62 rfl (lv_at hl 1 rfl) ?_
  refine q_get (v := .ref (a 34)) C inX9_split_X9 hK hP 30 rfl rfl 4 (by decide) rfl LX9_split_20 rfl dX9_split_63 ?_
  refine lv_iload_n hx hb dX9_split_66 rfl (lv_at hl 2 rfl) ?_
  refine lv_aload_n hx hb dX9_split_67 rfl (lv_at hl 1 rfl) ?_
  refine q_get (v := .long (s8.u 0)) C inX9_split_X9 hK hP 30 rfl rfl 6 (by decide) rfl LX9_split_57 rfl dX9_split_68 ?_
  obtain ⟨g10, hB⟩ := guard_inv hB
  obtain ⟨s11, hs12, hB⟩ := letS_inv hB
  refine q_last (f2 := (vp_updL (s8.g 34) (Int32.toNatClampNeg x2) (s8.u 0))) (w2 := (wK cB cI cJ cZ cS a s11)) C hK hP hD hS 34 2 rfl rfl (vpb_in g10) dX9_split_71 rfl (by subst hs12; rfl) (fun H locs hP hD hS => ?_)
  refine lv_iinc (v := (x2 + 1)) (lv' := [(2, .int (x2 + 1)), (1, .int r6), (0, .ref (a 30))]) hx hb dX9_split_72 hl (k := 2) rfl (rfl) (by decide) rfl (fun ls hl => ?_)
  refine lv_goto (tgt := 11) hx hb dX9_split_75 (by decide) ?_
  exact hk11 _ _ _ hB p e s0 m below meth c A E hX H locs ls hP hD hS (lv_sub hl [2, 1, 0] rfl)
set_option maxHeartbeats 4000000 in
set_option maxRecDepth 100000 in
theorem bkX9_split_11 {l : Launch} {dC : Nat → ClassId} {dI : Nat → Nat → Nat} {cB cI cJ cZ cS : ClassId} {ak av : Nat} {a : Nat → Nat} {as : List Value} {s' : KS} {k11 : KS → Int32 → Int32 → Option KS} (hk11 : ∀ (s : KS) (x1 : Int32) (x2 : Int32), k11 s x1 x2 = some s' → BlkVS ak av l yX9_split wsX9_split ({ frames := 5, cells := 0, slots := 0, locals := 112 }) cX9_split 3 none (dC, dI) (tysA cB cI cJ cZ cS) as 11 (wK cB cI cJ cZ cS a s) [(0, .ref (a 30)), (1, .int x1), (2, .int x2)] [] (fun u => u = (wK cB cI cJ cZ cS a s'))) (s : KS) (x1 : Int32) (x2 : Int32) (hB : kX9_split_11 k11 s x1 x2 = some s') : BlkVS ak av l yX9_split wsX9_split ({ frames := 5, cells := 0, slots := 0, locals := 112 }) cX9_split 3 none (dC, dI) (tysA cB cI cJ cZ cS) as 11 (wK cB cI cJ cZ cS a s) [(0, .ref (a 30)), (1, .int x1), (2, .int x2)] [] (fun u => u = (wK cB cI cJ cZ cS a s')) := by
  intro p e s0 m below meth c A E hX H locs ls hP hD hS hl
  obtain ⟨C, hr, hlocks, hA, hK, hN⟩ := id E
  obtain ⟨hx, hb, hml, hown, hts⟩ := id C
  unfold kX9_split_11 at hB
  refine lv_iload_n hx hb dX9_split_11 rfl (lv_at hl 2 rfl) ?_
  refine lv_sipush (v := 400) hx hb dX9_split_12 (by decide) ?_
  refine lv_icmp_gt (tgt := 78) hx hb dX9_split_15 (by decide) (fun c1 => ?_) (fun c1 => ?_)
  · have hB := if_p hB c1
    exact q_vret C hr hlocks hK hP hD hS (Nat.le_of_ble_eq_true rfl) (Nat.le_of_ble_eq_true rfl) dX9_split_78 (by cases hB; rfl)
  · have hB := if_n hB c1
    refine lv_iload_n hx hb dX9_split_18 rfl (lv_at hl 2 rfl) ?_
    refine lv_if_eq (tgt := 36) hx hb dX9_split_19 (by decide) (fun c2 => ?_) (fun c2 => ?_)
    · have hB := if_p hB c2
      exact bkX9_split_36 (hk11) _ _ hB p e s0 m below meth c A E hX H locs ls hP hD hS (lv_sub hl [0, 2] rfl)
    · have hB := if_n hB c2
      refine lv_iload_n hx hb dX9_split_22 rfl (lv_at hl 1 rfl) ?_
      refine lv_sipush (v := 302) hx hb dX9_split_23 (by decide) ?_
      refine lv_icmp_eq (tgt := 78) hx hb dX9_split_26 (by decide) (fun c3 => ?_) (fun c3 => ?_)
      · have hB := if_p hB c3
        exact q_vret C hr hlocks hK hP hD hS (Nat.le_of_ble_eq_true rfl) (Nat.le_of_ble_eq_true rfl) dX9_split_78 (by cases hB; rfl)
      · have hB := if_n hB c3
        refine lv_iload_n hx hb dX9_split_29 rfl (lv_at hl 1 rfl) ?_
        refine lv_sipush (v := 303) hx hb dX9_split_30 (by decide) ?_
        refine lv_icmp_eq (tgt := 78) hx hb dX9_split_33 (by decide) (fun c4 => ?_) (fun c4 => ?_)
        · have hB := if_p hB c4
          exact q_vret C hr hlocks hK hP hD hS (Nat.le_of_ble_eq_true rfl) (Nat.le_of_ble_eq_true rfl) dX9_split_78 (by cases hB; rfl)
        · have hB := if_n hB c4
          exact bkX9_split_36 (hk11) _ _ hB p e s0 m below meth c A E hX H locs ls hP hD hS (lv_sub hl [0, 2] rfl)
theorem bkX9_split_11L {l : Launch} {dC : Nat → ClassId} {dI : Nat → Nat → Nat} {cB cI cJ cZ cS : ClassId} {ak av : Nat} {a : Nat → Nat} {as : List Value} {s' : KS} : ∀ (n : Nat) (s : KS) (x1 : Int32) (x2 : Int32), kX9_split_11L n s x1 x2 = some s' → BlkVS ak av l yX9_split wsX9_split ({ frames := 5, cells := 0, slots := 0, locals := 112 }) cX9_split 3 none (dC, dI) (tysA cB cI cJ cZ cS) as 11 (wK cB cI cJ cZ cS a s) [(0, .ref (a 30)), (1, .int x1), (2, .int x2)] [] (fun u => u = (wK cB cI cJ cZ cS a s')) := by
  intro n
  induction n with
  | zero => intro s x1 x2 hB; exact none_ne hB
  | succ n ih => intro s x1 x2 hB; exact bkX9_split_11 ih _ _ _ hB
set_option maxHeartbeats 4000000 in
set_option maxRecDepth 100000 in
theorem bkX9_split {l : Launch} {dC : Nat → ClassId} {dI : Nat → Nat → Nat} {cB cI cJ cZ cS : ClassId} {ak av : Nat} {a : Nat → Nat} {as : List Value} {s' : KS} (s : KS) (hB : kX9_split s = some s') : BlkVS ak av l yX9_split wsX9_split ({ frames := 5, cells := 0, slots := 0, locals := 112 }) cX9_split 3 none (dC, dI) (tysA cB cI cJ cZ cS) as 0 (wK cB cI cJ cZ cS a s) [(0, .ref (a 30))] [] (fun u => u = (wK cB cI cJ cZ cS a s')) := by
  intro p e s0 m below meth c A E hX H locs ls hP hD hS hl
  obtain ⟨C, hr, hlocks, hA, hK, hN⟩ := id E
  obtain ⟨hx, hb, hml, hown, hts⟩ := id C
  unfold kX9_split at hB
  refine lv_aload_n hx hb dX9_split_0 rfl (lv_at hl 0 rfl) ?_
  refine lv_iconst (v := 0) hx hb dX9_split_1 (by decide) ?_
  obtain ⟨s1, hs2, hB⟩ := letS_inv hB
  refine q_put (ty := .int) (w2 := (wK cB cI cJ cZ cS a s1)) tyX9 tyX9_ok nmX9 C inX9_split_X9 hK hP hD hS 30 rfl rfl 5 (by decide) rfl LX9_split_47 rfl (by decide +kernel) (rfl) rfl (Nat.le_of_ble_eq_true rfl) dX9_split_2 (by subst hs2; rfl) (fun H locs hP hD hS => ?_)
  refine lv_sipush (v := 303) hx hb dX9_split_5 (by decide) ?_
  refine lv_istore_n (lv' := [(1, .int 303), (0, .ref (a 30))]) hx hb dX9_split_8 rfl hl (by decide) rfl (fun ls hl => ?_)
  refine lv_iconst (v := 0) hx hb dX9_split_9 (by decide) ?_
  refine lv_istore_n (lv' := [(2, .int 0), (1, .int 303), (0, .ref (a 30))]) hx hb dX9_split_10 rfl hl (by decide) rfl (fun ls hl => ?_)
  exact bkX9_split_11L fu _ _ _ hB p e s0 m below meth c A E hX H locs ls hP hD hS (lv_sub hl [2, 1, 0] rfl)
theorem ckX9_split {l : Launch} {dC : Nat → ClassId} {dI : Nat → Nat → Nat} {cB cI cJ cZ cS : ClassId} {ak av : Nat} {a : Nat → Nat} {s' : KS} {s : KS} (hB : kX9_split s = some s') : CVS ak av l yX9_split wsX9_split ({ frames := 5, cells := 0, slots := 0, locals := 112 }) (dC, dI) (tysA cB cI cJ cZ cS) (wK cB cI cJ cZ cS a s) [.ref (a 30)] (fun u => u = (wK cB cI cJ cZ cS a s')) :=
  CVS_of (cc := cX9_split) (maxL := 3) (ret := none) (by decide) rfl (Nat.le_of_ble_eq_true rfl) (bkX9_split _ hB)
