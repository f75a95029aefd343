theorem ggX11_chosen_X11_copies : GoodIn wsX11_chosen wsX11_copies := gi_sub (fun w h => List.mem_cons_of_mem _ (List.mem_append_left _ (List.mem_append_right _ (List.mem_append_left _ h)))) gd_wsX11_copies
set_option maxRecDepth 20000 in
theorem gX11_chosen_X11_copies : GoodIn wsX11_chosen (wsV RX11 352 RX11 yX11_copies wsX11_copies) := goodIn_app (goodIn_r _ [3, 4, 5, 6] (by decide +kernel) (by decide +kernel)) ggX11_chosen_X11_copies
theorem ggX11_chosen_X11_isHere : GoodIn wsX11_chosen wsX11_isHere := gi_sub (fun w h => List.mem_cons_of_mem _ (List.mem_append_left _ (List.mem_append_right _ (List.mem_append_right _ (List.mem_append_left _ h))))) gd_wsX11_isHere
set_option maxRecDepth 20000 in
theorem gX11_chosen_X11_isHere : GoodIn wsX11_chosen (wsV RX11 364 RX11 yX11_isHere wsX11_isHere) := goodIn_app (goodIn_r _ [7, 8, 9, 6] (by decide +kernel) (by decide +kernel)) ggX11_chosen_X11_isHere
theorem ggX11_chosen_X11_bestFor : GoodIn wsX11_chosen wsX11_bestFor := gi_sub (fun w h => List.mem_cons_of_mem _ (List.mem_append_left _ (List.mem_append_right _ (List.mem_append_right _ (List.mem_append_right _ (List.mem_append_left _ h)))))) gd_wsX11_bestFor
set_option maxRecDepth 20000 in
theorem gX11_chosen_X11_bestFor : GoodIn wsX11_chosen (wsV RX11 398 RX11 yX11_bestFor wsX11_bestFor) := goodIn_app (goodIn_r _ [10, 11, 12, 6] (by decide +kernel) (by decide +kernel)) ggX11_chosen_X11_bestFor
theorem ggX11_chosen_X11_chanceOf : GoodIn wsX11_chosen wsX11_chanceOf := gi_sub (fun w h => List.mem_cons_of_mem _ (List.mem_append_left _ (List.mem_append_right _ (List.mem_append_right _ (List.mem_append_right _ (List.mem_append_right _ h)))))) gd_wsX11_chanceOf
set_option maxRecDepth 20000 in
theorem gX11_chosen_X11_chanceOf : GoodIn wsX11_chosen (wsV RX11 392 RX11 yX11_chanceOf wsX11_chanceOf) := goodIn_app (goodIn_r _ [13, 14, 15, 6] (by decide +kernel) (by decide +kernel)) ggX11_chosen_X11_chanceOf
theorem dX11_chosen_0 : decode cX11_chosen 0 = .ok (.aload_n 0, 1) := dc1_42 (by decide +kernel)
theorem dX11_chosen_1 : decode cX11_chosen 1 = .ok (.invokevirtual 352, 3) := dcw_182 (by decide +kernel)
theorem dX11_chosen_4 : decode cX11_chosen 4 = .ok (.bipush (-2), 2) := dcb_16 (n := 254) (by decide +kernel)
theorem dX11_chosen_6 : decode cX11_chosen 6 = .ok (.istore_n 1, 1) := dc1_60 (by decide +kernel)
theorem dX11_chosen_7 : decode cX11_chosen 7 = .ok (.iconst 0, 1) := dc1_3 (by decide +kernel)
theorem dX11_chosen_8 : decode cX11_chosen 8 = .ok (.istore_n 2, 1) := dc1_61 (by decide +kernel)
theorem dX11_chosen_9 : decode cX11_chosen 9 = .ok (.iconst 0, 1) := dc1_3 (by decide +kernel)
theorem dX11_chosen_10 : decode cX11_chosen 10 = .ok (.istore_n 3, 1) := dc1_62 (by decide +kernel)
theorem dX11_chosen_11 : decode cX11_chosen 11 = .ok (.iload_n 3, 1) := dc1_29 (by decide +kernel)
theorem dX11_chosen_12 : decode cX11_chosen 12 = .ok (.aload_n 0, 1) := dc1_42 (by decide +kernel)
theorem dX11_chosen_13 : decode cX11_chosen 13 = .ok (.getfield 49, 3) := dcw_180 (by decide +kernel)
theorem dX11_chosen_16 : decode cX11_chosen 16 = .ok (.aload_n 0, 1) := dc1_42 (by decide +kernel)
theorem dX11_chosen_17 : decode cX11_chosen 17 = .ok (.getfield 215, 3) := dcw_180 (by decide +kernel)
theorem dX11_chosen_20 : decode cX11_chosen 20 = .ok (.iaload, 1) := dc1_46 (by decide +kernel)
theorem dX11_chosen_21 : decode cX11_chosen 21 = .ok (.if_icmp .ge 60, 3) := dcs_162 (n := 60) (by decide +kernel)
theorem dX11_chosen_24 : decode cX11_chosen 24 = .ok (.aload_n 0, 1) := dc1_42 (by decide +kernel)
theorem dX11_chosen_25 : decode cX11_chosen 25 = .ok (.iload_n 3, 1) := dc1_29 (by decide +kernel)
theorem dX11_chosen_26 : decode cX11_chosen 26 = .ok (.invokevirtual 364, 3) := dcw_182 (by decide +kernel)
theorem dX11_chosen_29 : decode cX11_chosen 29 = .ok (.ifCond .eq 11, 3) := dcs_153 (n := 11) (by decide +kernel)
theorem dX11_chosen_32 : decode cX11_chosen 32 = .ok (.aload_n 0, 1) := dc1_42 (by decide +kernel)
theorem dX11_chosen_33 : decode cX11_chosen 33 = .ok (.iload_n 3, 1) := dc1_29 (by decide +kernel)
theorem dX11_chosen_34 : decode cX11_chosen 34 = .ok (.invokevirtual 398, 3) := dcw_182 (by decide +kernel)
theorem dX11_chosen_37 : decode cX11_chosen 37 = .ok (.goto 5, 3) := dcs_167 (n := 5) (by decide +kernel)
theorem dX11_chosen_40 : decode cX11_chosen 40 = .ok (.bipush (-2), 2) := dcb_16 (n := 254) (by decide +kernel)
theorem dX11_chosen_42 : decode cX11_chosen 42 = .ok (.istore 4, 2) := dcu_54 (by decide +kernel)
theorem dX11_chosen_44 : decode cX11_chosen 44 = .ok (.iload 4, 2) := dcu_21 (by decide +kernel)
theorem dX11_chosen_46 : decode cX11_chosen 46 = .ok (.ifCond .lt 29, 3) := dcs_155 (n := 29) (by decide +kernel)
theorem dX11_chosen_49 : decode cX11_chosen 49 = .ok (.iload_n 1, 1) := dc1_27 (by decide +kernel)
theorem dX11_chosen_50 : decode cX11_chosen 50 = .ok (.ifCond .lt 16, 3) := dcs_155 (n := 16) (by decide +kernel)
theorem dX11_chosen_53 : decode cX11_chosen 53 = .ok (.aload_n 0, 1) := dc1_42 (by decide +kernel)
theorem dX11_chosen_54 : decode cX11_chosen 54 = .ok (.iload 4, 2) := dcu_21 (by decide +kernel)
theorem dX11_chosen_56 : decode cX11_chosen 56 = .ok (.invokevirtual 392, 3) := dcw_182 (by decide +kernel)
theorem dX11_chosen_59 : decode cX11_chosen 59 = .ok (.iload_n 2, 1) := dc1_28 (by decide +kernel)
theorem dX11_chosen_60 : decode cX11_chosen 60 = .ok (.if_icmp .gt 6, 3) := dcs_163 (n := 6) (by decide +kernel)
theorem dX11_chosen_63 : decode cX11_chosen 63 = .ok (.goto 12, 3) := dcs_167 (n := 12) (by decide +kernel)
theorem dX11_chosen_66 : decode cX11_chosen 66 = .ok (.iload_n 3, 1) := dc1_29 (by decide +kernel)
theorem dX11_chosen_67 : decode cX11_chosen 67 = .ok (.istore_n 1, 1) := dc1_60 (by decide +kernel)
theorem dX11_chosen_68 : decode cX11_chosen 68 = .ok (.aload_n 0, 1) := dc1_42 (by decide +kernel)
theorem dX11_chosen_69 : decode cX11_chosen 69 = .ok (.iload 4, 2) := dcu_21 (by decide +kernel)
theorem dX11_chosen_71 : decode cX11_chosen 71 = .ok (.invokevirtual 392, 3) := dcw_182 (by decide +kernel)
theorem dX11_chosen_74 : decode cX11_chosen 74 = .ok (.istore_n 2, 1) := dc1_61 (by decide +kernel)
theorem dX11_chosen_75 : decode cX11_chosen 75 = .ok (.iinc 3 1, 3) := dc_iinc (m := 1) (by decide +kernel)
theorem dX11_chosen_78 : decode cX11_chosen 78 = .ok (.goto (-67), 3) := dcs_167 (n := 65469) (by decide +kernel)
theorem dX11_chosen_81 : decode cX11_chosen 81 = .ok (.iload_n 1, 1) := dc1_27 (by decide +kernel)
theorem dX11_chosen_82 : decode cX11_chosen 82 = .ok (.ireturn, 1) := dc1_172 (by decide +kernel)
theorem dX11_manyIn_0 : decode cX11_manyIn 0 = .ok (.iconst 0, 1) := dc1_3 (by decide +kernel)
theorem dX11_manyIn_1 : decode cX11_manyIn 1 = .ok (.istore_n 2, 1) := dc1_61 (by decide +kernel)
theorem dX11_manyIn_2 : decode cX11_manyIn 2 = .ok (.iconst 0, 1) := dc1_3 (by decide +kernel)
theorem dX11_manyIn_3 : decode cX11_manyIn 3 = .ok (.istore_n 3, 1) := dc1_62 (by decide +kernel)
theorem dX11_manyIn_4 : decode cX11_manyIn 4 = .ok (.iload_n 3, 1) := dc1_29 (by decide +kernel)
theorem dX11_manyIn_5 : decode cX11_manyIn 5 = .ok (.aload_n 0, 1) := dc1_42 (by decide +kernel)
theorem dX11_manyIn_6 : decode cX11_manyIn 6 = .ok (.getfield 49, 3) := dcw_180 (by decide +kernel)
theorem dX11_manyIn_9 : decode cX11_manyIn 9 = .ok (.aload_n 0, 1) := dc1_42 (by decide +kernel)
theorem dX11_manyIn_10 : decode cX11_manyIn 10 = .ok (.getfield 215, 3) := dcw_180 (by decide +kernel)
theorem dX11_manyIn_13 : decode cX11_manyIn 13 = .ok (.iaload, 1) := dc1_46 (by decide +kernel)
theorem dX11_manyIn_14 : decode cX11_manyIn 14 = .ok (.if_icmp .ge 25, 3) := dcs_162 (n := 25) (by decide +kernel)
theorem dX11_manyIn_17 : decode cX11_manyIn 17 = .ok (.aload_n 0, 1) := dc1_42 (by decide +kernel)
theorem dX11_manyIn_18 : decode cX11_manyIn 18 = .ok (.getfield 101, 3) := dcw_180 (by decide +kernel)
theorem dX11_manyIn_21 : decode cX11_manyIn 21 = .ok (.bipush 15, 2) := dcb_16 (n := 15) (by decide +kernel)
theorem dX11_manyIn_23 : decode cX11_manyIn 23 = .ok (.iload_n 3, 1) := dc1_29 (by decide +kernel)
theorem dX11_manyIn_24 : decode cX11_manyIn 24 = .ok (.iadd, 1) := dc1_96 (by decide +kernel)
theorem dX11_manyIn_25 : decode cX11_manyIn 25 = .ok (.iaload, 1) := dc1_46 (by decide +kernel)
theorem dX11_manyIn_26 : decode cX11_manyIn 26 = .ok (.iload_n 1, 1) := dc1_27 (by decide +kernel)
theorem dX11_manyIn_27 : decode cX11_manyIn 27 = .ok (.if_icmp .ne 6, 3) := dcs_160 (n := 6) (by decide +kernel)
theorem dX11_manyIn_30 : decode cX11_manyIn 30 = .ok (.iinc 2 1, 3) := dc_iinc (m := 1) (by decide +kernel)
theorem dX11_manyIn_33 : decode cX11_manyIn 33 = .ok (.iinc 3 1, 3) := dc_iinc (m := 1) (by decide +kernel)
theorem dX11_manyIn_36 : decode cX11_manyIn 36 = .ok (.goto (-32), 3) := dcs_167 (n := 65504) (by decide +kernel)
theorem dX11_manyIn_39 : decode cX11_manyIn 39 = .ok (.iload_n 2, 1) := dc1_28 (by decide +kernel)
theorem dX11_manyIn_40 : decode cX11_manyIn 40 = .ok (.ireturn, 1) := dc1_172 (by decide +kernel)
theorem ggX11_allGo_X11_in : GoodIn wsX11_allGo wsX11_in := gi_sub (fun w h => List.mem_cons_of_mem _ (List.mem_append_left _ (List.mem_append_right _ (List.mem_append_left _ h)))) gd_wsX11_in
set_option maxRecDepth 20000 in
theorem gX11_allGo_X11_in : GoodIn wsX11_allGo (va_wsS RX11 281 yX11_in wsX11_in) := goodIn_app (goodIn_of _ (by decide +kernel)) ggX11_allGo_X11_in
theorem ggX11_allGo_X11_copies : GoodIn wsX11_allGo wsX11_copies := gi_sub (fun w h => List.mem_cons_of_mem _ (List.mem_append_left _ (List.mem_append_right _ (List.mem_append_right _ (List.mem_append_left _ h))))) gd_wsX11_copies
set_option maxRecDepth 20000 in
theorem gX11_allGo_X11_copies : GoodIn wsX11_allGo (wsV RX11 352 RX11 yX11_copies wsX11_copies) := goodIn_app (goodIn_r _ [9, 10, 11, 8] (by decide +kernel) (by decide +kernel)) ggX11_allGo_X11_copies
theorem ggX11_allGo_X11_thereNumber : GoodIn wsX11_allGo wsX11_thereNumber := gi_sub (fun w h => List.mem_cons_of_mem _ (List.mem_append_left _ (List.mem_append_right _ (List.mem_append_right _ (List.mem_append_right _ (List.mem_append_left _ h)))))) gd_wsX11_thereNumber
set_option maxRecDepth 20000 in
theorem gX11_allGo_X11_thereNumber : GoodIn wsX11_allGo (wsV RX11 370 RX11 yX11_thereNumber wsX11_thereNumber) := goodIn_app (goodIn_r _ [12, 13, 14, 8] (by decide +kernel) (by decide +kernel)) ggX11_allGo_X11_thereNumber
theorem ggX11_allGo_X11_isHere : GoodIn wsX11_allGo wsX11_isHere := gi_sub (fun w h => List.mem_cons_of_mem _ (List.mem_append_left _ (List.mem_append_right _ (List.mem_append_right _ (List.mem_append_right _ (List.mem_append_right _ (List.mem_append_left _ h))))))) gd_wsX11_isHere
set_option maxRecDepth 20000 in
theorem gX11_allGo_X11_isHere : GoodIn wsX11_allGo (wsV RX11 364 RX11 yX11_isHere wsX11_isHere) := goodIn_app (goodIn_r _ [15, 16, 17, 8] (by decide +kernel) (by decide +kernel)) ggX11_allGo_X11_isHere
theorem ggX11_allGo_X11_doesDare : GoodIn wsX11_allGo wsX11_doesDare := gi_sub (fun w h => List.mem_cons_of_mem _ (List.mem_append_left _ (List.mem_append_right _ (List.mem_append_right _ (List.mem_append_right _ (List.mem_append_right _ (List.mem_append_right _ (List.mem_append_left _ h)))))))) gd_wsX11_doesDare
set_option maxRecDepth 20000 in
theorem gX11_allGo_X11_doesDare : GoodIn wsX11_allGo (wsV RX11 361 RX11 yX11_doesDare wsX11_doesDare) := goodIn_app (goodIn_r _ [18, 19, 20, 8] (by decide +kernel) (by decide +kernel)) ggX11_allGo_X11_doesDare
theorem ggX11_allGo_X11_bestFor : GoodIn wsX11_allGo wsX11_bestFor := gi_sub (fun w h => List.mem_cons_of_mem _ (List.mem_append_left _ (List.mem_append_right _ (List.mem_append_right _ (List.mem_append_right _ (List.mem_append_right _ (List.mem_append_right _ (List.mem_append_right _ (List.mem_append_left _ h))))))))) gd_wsX11_bestFor
set_option maxRecDepth 20000 in
theorem gX11_allGo_X11_bestFor : GoodIn wsX11_allGo (wsV RX11 398 RX11 yX11_bestFor wsX11_bestFor) := goodIn_app (goodIn_r _ [21, 22, 23, 8] (by decide +kernel) (by decide +kernel)) ggX11_allGo_X11_bestFor
theorem ggX11_allGo_X11_goesBy : GoodIn wsX11_allGo wsX11_goesBy := gi_sub (fun w h => List.mem_cons_of_mem _ (List.mem_append_left _ (List.mem_append_right _ (List.mem_append_right _ (List.mem_append_right _ (List.mem_append_right _ (List.mem_append_right _ (List.mem_append_right _ (List.mem_append_right _ (List.mem_append_left _ h)))))))))) gd_wsX11_goesBy
set_option maxRecDepth 20000 in
theorem gX11_allGo_X11_goesBy : GoodIn wsX11_allGo (wsV RX11 373 RX11 yX11_goesBy wsX11_goesBy) := goodIn_app (goodIn_r _ [24, 25, 26, 8] (by decide +kernel) (by decide +kernel)) ggX11_allGo_X11_goesBy
theorem ggX11_allGo_X11_manyIn : GoodIn wsX11_allGo wsX11_manyIn := gi_sub (fun w h => List.mem_cons_of_mem _ (List.mem_append_left _ (List.mem_append_right _ (List.mem_append_right _ (List.mem_append_right _ (List.mem_append_right _ (List.mem_append_right _ (List.mem_append_right _ (List.mem_append_right _ (List.mem_append_right _ h)))))))))) gd_wsX11_manyIn
set_option maxRecDepth 20000 in
theorem gX11_allGo_X11_manyIn : GoodIn wsX11_allGo (wsV RX11 416 RX11 yX11_manyIn wsX11_manyIn) := goodIn_app (goodIn_r _ [27, 28, 29, 8] (by decide +kernel) (by decide +kernel)) ggX11_allGo_X11_manyIn
theorem dX11_allGo_0 : decode cX11_allGo 0 = .ok (.iload_n 1, 1) := dc1_27 (by decide +kernel)
theorem dX11_allGo_1 : decode cX11_allGo 1 = .ok (.iconst 0, 1) := dc1_3 (by decide +kernel)
theorem dX11_allGo_2 : decode cX11_allGo 2 = .ok (.iconst 2, 1) := dc1_5 (by decide +kernel)
theorem dX11_allGo_3 : decode cX11_allGo 3 = .ok (.invokestatic 281, 3) := dcw_184 (by decide +kernel)
theorem dX11_allGo_6 : decode cX11_allGo 6 = .ok (.ifCond .ne 5, 3) := dcs_154 (n := 5) (by decide +kernel)
theorem dX11_allGo_9 : decode cX11_allGo 9 = .ok (.iconst (-1), 1) := dc1_2 (by decide +kernel)
theorem dX11_allGo_10 : decode cX11_allGo 10 = .ok (.ireturn, 1) := dc1_172 (by decide +kernel)
theorem dX11_allGo_11 : decode cX11_allGo 11 = .ok (.aload_n 0, 1) := dc1_42 (by decide +kernel)
theorem dX11_allGo_12 : decode cX11_allGo 12 = .ok (.invokevirtual 352, 3) := dcw_182 (by decide +kernel)
theorem dX11_allGo_15 : decode cX11_allGo 15 = .ok (.aload_n 0, 1) := dc1_42 (by decide +kernel)
theorem dX11_allGo_16 : decode cX11_allGo 16 = .ok (.invokevirtual 370, 3) := dcw_182 (by decide +kernel)
theorem dX11_allGo_19 : decode cX11_allGo 19 = .ok (.istore_n 2, 1) := dc1_61 (by decide +kernel)
theorem dX11_allGo_20 : decode cX11_allGo 20 = .ok (.iconst 0, 1) := dc1_3 (by decide +kernel)
theorem dX11_allGo_21 : decode cX11_allGo 21 = .ok (.istore_n 3, 1) := dc1_62 (by decide +kernel)
theorem dX11_allGo_22 : decode cX11_allGo 22 = .ok (.iload_n 3, 1) := dc1_29 (by decide +kernel)
theorem dX11_allGo_23 : decode cX11_allGo 23 = .ok (.aload_n 0, 1) := dc1_42 (by decide +kernel)
theorem dX11_allGo_24 : decode cX11_allGo 24 = .ok (.getfield 49, 3) := dcw_180 (by decide +kernel)
theorem dX11_allGo_27 : decode cX11_allGo 27 = .ok (.aload_n 0, 1) := dc1_42 (by decide +kernel)
theorem dX11_allGo_28 : decode cX11_allGo 28 = .ok (.getfield 215, 3) := dcw_180 (by decide +kernel)
theorem dX11_allGo_31 : decode cX11_allGo 31 = .ok (.iaload, 1) := dc1_46 (by decide +kernel)
theorem dX11_allGo_32 : decode cX11_allGo 32 = .ok (.if_icmp .ge 63, 3) := dcs_162 (n := 63) (by decide +kernel)
theorem dX11_allGo_35 : decode cX11_allGo 35 = .ok (.aload_n 0, 1) := dc1_42 (by decide +kernel)
theorem dX11_allGo_36 : decode cX11_allGo 36 = .ok (.iload_n 3, 1) := dc1_29 (by decide +kernel)
theorem dX11_allGo_37 : decode cX11_allGo 37 = .ok (.invokevirtual 364, 3) := dcw_182 (by decide +kernel)
theorem dX11_allGo_40 : decode cX11_allGo 40 = .ok (.ifCond .eq 31, 3) := dcs_153 (n := 31) (by decide +kernel)
theorem dX11_allGo_43 : decode cX11_allGo 43 = .ok (.aload_n 0, 1) := dc1_42 (by decide +kernel)
theorem dX11_allGo_44 : decode cX11_allGo 44 = .ok (.iload_n 3, 1) := dc1_29 (by decide +kernel)
theorem dX11_allGo_45 : decode cX11_allGo 45 = .ok (.invokevirtual 361, 3) := dcw_182 (by decide +kernel)
theorem dX11_allGo_48 : decode cX11_allGo 48 = .ok (.ifCond .eq 23, 3) := dcs_153 (n := 23) (by decide +kernel)
theorem dX11_allGo_51 : decode cX11_allGo 51 = .ok (.aload_n 0, 1) := dc1_42 (by decide +kernel)
theorem dX11_allGo_52 : decode cX11_allGo 52 = .ok (.getfield 40, 3) := dcw_180 (by decide +kernel)
theorem dX11_allGo_55 : decode cX11_allGo 55 = .ok (.aload_n 0, 1) := dc1_42 (by decide +kernel)
theorem dX11_allGo_56 : decode cX11_allGo 56 = .ok (.getfield 215, 3) := dcw_180 (by decide +kernel)
theorem dX11_allGo_59 : decode cX11_allGo 59 = .ok (.iaload, 1) := dc1_46 (by decide +kernel)
theorem dX11_allGo_60 : decode cX11_allGo 60 = .ok (.ifCond .le 11, 3) := dcs_158 (n := 11) (by decide +kernel)
theorem dX11_allGo_63 : decode cX11_allGo 63 = .ok (.aload_n 0, 1) := dc1_42 (by decide +kernel)
theorem dX11_allGo_64 : decode cX11_allGo 64 = .ok (.iload_n 3, 1) := dc1_29 (by decide +kernel)
theorem dX11_allGo_65 : decode cX11_allGo 65 = .ok (.invokevirtual 398, 3) := dcw_182 (by decide +kernel)
theorem dX11_allGo_68 : decode cX11_allGo 68 = .ok (.goto 5, 3) := dcs_167 (n := 5) (by decide +kernel)
theorem dX11_allGo_71 : decode cX11_allGo 71 = .ok (.bipush (-2), 2) := dcb_16 (n := 254) (by decide +kernel)
theorem dX11_allGo_73 : decode cX11_allGo 73 = .ok (.istore 4, 2) := dcu_54 (by decide +kernel)
theorem dX11_allGo_75 : decode cX11_allGo 75 = .ok (.iload 4, 2) := dcu_21 (by decide +kernel)
theorem dX11_allGo_77 : decode cX11_allGo 77 = .ok (.ifCond .lt 12, 3) := dcs_155 (n := 12) (by decide +kernel)
theorem dX11_allGo_80 : decode cX11_allGo 80 = .ok (.aload_n 0, 1) := dc1_42 (by decide +kernel)
theorem dX11_allGo_81 : decode cX11_allGo 81 = .ok (.iload_n 3, 1) := dc1_29 (by decide +kernel)
theorem dX11_allGo_82 : decode cX11_allGo 82 = .ok (.iload 4, 2) := dcu_21 (by decide +kernel)
theorem dX11_allGo_84 : decode cX11_allGo 84 = .ok (.iload_n 2, 1) := dc1_28 (by decide +kernel)
theorem dX11_allGo_85 : decode cX11_allGo 85 = .ok (.invokevirtual 373, 3) := dcw_182 (by decide +kernel)
theorem dX11_allGo_88 : decode cX11_allGo 88 = .ok (.pop, 1) := dc1_87 (by decide +kernel)
theorem dX11_allGo_89 : decode cX11_allGo 89 = .ok (.iinc 3 1, 3) := dc_iinc (m := 1) (by decide +kernel)
theorem dX11_allGo_92 : decode cX11_allGo 92 = .ok (.goto (-70), 3) := dcs_167 (n := 65466) (by decide +kernel)
theorem dX11_allGo_95 : decode cX11_allGo 95 = .ok (.iload_n 1, 1) := dc1_27 (by decide +kernel)
theorem dX11_allGo_96 : decode cX11_allGo 96 = .ok (.ifCond .ne 11, 3) := dcs_154 (n := 11) (by decide +kernel)
theorem dX11_allGo_99 : decode cX11_allGo 99 = .ok (.aload_n 0, 1) := dc1_42 (by decide +kernel)
theorem dX11_allGo_100 : decode cX11_allGo 100 = .ok (.iconst 2, 1) := dc1_5 (by decide +kernel)
theorem dX11_allGo_101 : decode cX11_allGo 101 = .ok (.invokevirtual 416, 3) := dcw_182 (by decide +kernel)
theorem dX11_allGo_104 : decode cX11_allGo 104 = .ok (.goto 31, 3) := dcs_167 (n := 31) (by decide +kernel)
theorem dX11_allGo_107 : decode cX11_allGo 107 = .ok (.iload_n 1, 1) := dc1_27 (by decide +kernel)
theorem dX11_allGo_108 : decode cX11_allGo 108 = .ok (.iconst 1, 1) := dc1_4 (by decide +kernel)
theorem dX11_allGo_109 : decode cX11_allGo 109 = .ok (.if_icmp .ne 11, 3) := dcs_160 (n := 11) (by decide +kernel)
theorem dX11_allGo_112 : decode cX11_allGo 112 = .ok (.aload_n 0, 1) := dc1_42 (by decide +kernel)
theorem dX11_allGo_113 : decode cX11_allGo 113 = .ok (.iconst 1, 1) := dc1_4 (by decide +kernel)
theorem dX11_allGo_114 : decode cX11_allGo 114 = .ok (.invokevirtual 416, 3) := dcw_182 (by decide +kernel)
theorem dX11_allGo_117 : decode cX11_allGo 117 = .ok (.goto 18, 3) := dcs_167 (n := 18) (by decide +kernel)
theorem dX11_allGo_120 : decode cX11_allGo 120 = .ok (.aload_n 0, 1) := dc1_42 (by decide +kernel)
theorem dX11_allGo_121 : decode cX11_allGo 121 = .ok (.getfield 101, 3) := dcw_180 (by decide +kernel)
theorem dX11_allGo_124 : decode cX11_allGo 124 = .ok (.bipush 28, 2) := dcb_16 (n := 28) (by decide +kernel)
theorem dX11_allGo_126 : decode cX11_allGo 126 = .ok (.iaload, 1) := dc1_46 (by decide +kernel)
theorem dX11_allGo_127 : decode cX11_allGo 127 = .ok (.aload_n 0, 1) := dc1_42 (by decide +kernel)
theorem dX11_allGo_128 : decode cX11_allGo 128 = .ok (.getfield 98, 3) := dcw_180 (by decide +kernel)
theorem dX11_allGo_131 : decode cX11_allGo 131 = .ok (.bipush 28, 2) := dcb_16 (n := 28) (by decide +kernel)
theorem dX11_allGo_133 : decode cX11_allGo 133 = .ok (.iaload, 1) := dc1_46 (by decide +kernel)
theorem dX11_allGo_134 : decode cX11_allGo 134 = .ok (.isub, 1) := dc1_100 (by decide +kernel)
theorem dX11_allGo_135 : decode cX11_allGo 135 = .ok (.ireturn, 1) := dc1_172 (by decide +kernel)
theorem ggX11_darers_X11_copies : GoodIn wsX11_darers wsX11_copies := gi_sub (fun w h => List.mem_cons_of_mem _ (List.mem_append_left _ (List.mem_append_right _ (List.mem_append_left _ h)))) gd_wsX11_copies
set_option maxRecDepth 20000 in
theorem gX11_darers_X11_copies : GoodIn wsX11_darers (wsV RX11 352 RX11 yX11_copies wsX11_copies) := goodIn_app (goodIn_r _ [3, 4, 5, 6] (by decide +kernel) (by decide +kernel)) ggX11_darers_X11_copies
theorem ggX11_darers_X11_isHere : GoodIn wsX11_darers wsX11_isHere := gi_sub (fun w h => List.mem_cons_of_mem _ (List.mem_append_left _ (List.mem_append_right _ (List.mem_append_right _ (List.mem_append_left _ h))))) gd_wsX11_isHere
set_option maxRecDepth 20000 in
theorem gX11_darers_X11_isHere : GoodIn wsX11_darers (wsV RX11 364 RX11 yX11_isHere wsX11_isHere) := goodIn_app (goodIn_r _ [7, 8, 9, 6] (by decide +kernel) (by decide +kernel)) ggX11_darers_X11_isHere
theorem ggX11_darers_X11_doesDare : GoodIn wsX11_darers wsX11_doesDare := gi_sub (fun w h => List.mem_cons_of_mem _ (List.mem_append_left _ (List.mem_append_right _ (List.mem_append_right _ (List.mem_append_right _ h))))) gd_wsX11_doesDare
set_option maxRecDepth 20000 in
theorem gX11_darers_X11_doesDare : GoodIn wsX11_darers (wsV RX11 361 RX11 yX11_doesDare wsX11_doesDare) := goodIn_app (goodIn_r _ [10, 11, 12, 6] (by decide +kernel) (by decide +kernel)) ggX11_darers_X11_doesDare
theorem dX11_darers_0 : decode cX11_darers 0 = .ok (.aload_n 0, 1) := dc1_42 (by decide +kernel)
theorem dX11_darers_1 : decode cX11_darers 1 = .ok (.invokevirtual 352, 3) := dcw_182 (by decide +kernel)
theorem dX11_darers_4 : decode cX11_darers 4 = .ok (.iconst 0, 1) := dc1_3 (by decide +kernel)
theorem dX11_darers_5 : decode cX11_darers 5 = .ok (.istore_n 1, 1) := dc1_60 (by decide +kernel)
theorem dX11_darers_6 : decode cX11_darers 6 = .ok (.iconst 0, 1) := dc1_3 (by decide +kernel)
theorem dX11_darers_7 : decode cX11_darers 7 = .ok (.istore_n 2, 1) := dc1_61 (by decide +kernel)
theorem dX11_darers_8 : decode cX11_darers 8 = .ok (.iload_n 2, 1) := dc1_28 (by decide +kernel)
theorem dX11_darers_9 : decode cX11_darers 9 = .ok (.aload_n 0, 1) := dc1_42 (by decide +kernel)
theorem dX11_darers_10 : decode cX11_darers 10 = .ok (.getfield 49, 3) := dcw_180 (by decide +kernel)
theorem dX11_darers_13 : decode cX11_darers 13 = .ok (.aload_n 0, 1) := dc1_42 (by decide +kernel)
theorem dX11_darers_14 : decode cX11_darers 14 = .ok (.getfield 215, 3) := dcw_180 (by decide +kernel)
theorem dX11_darers_17 : decode cX11_darers 17 = .ok (.iaload, 1) := dc1_46 (by decide +kernel)
theorem dX11_darers_18 : decode cX11_darers 18 = .ok (.if_icmp .ge 31, 3) := dcs_162 (n := 31) (by decide +kernel)
theorem dX11_darers_21 : decode cX11_darers 21 = .ok (.aload_n 0, 1) := dc1_42 (by decide +kernel)
theorem dX11_darers_22 : decode cX11_darers 22 = .ok (.iload_n 2, 1) := dc1_28 (by decide +kernel)
theorem dX11_darers_23 : decode cX11_darers 23 = .ok (.invokevirtual 364, 3) := dcw_182 (by decide +kernel)
theorem dX11_darers_26 : decode cX11_darers 26 = .ok (.ifCond .eq 17, 3) := dcs_153 (n := 17) (by decide +kernel)
theorem dX11_darers_29 : decode cX11_darers 29 = .ok (.aload_n 0, 1) := dc1_42 (by decide +kernel)
theorem dX11_darers_30 : decode cX11_darers 30 = .ok (.iload_n 2, 1) := dc1_28 (by decide +kernel)
theorem dX11_darers_31 : decode cX11_darers 31 = .ok (.invokevirtual 361, 3) := dcw_182 (by decide +kernel)
theorem dX11_darers_34 : decode cX11_darers 34 = .ok (.ifCond .eq 9, 3) := dcs_153 (n := 9) (by decide +kernel)
theorem dX11_darers_37 : decode cX11_darers 37 = .ok (.iload_n 1, 1) := dc1_27 (by decide +kernel)
theorem dX11_darers_38 : decode cX11_darers 38 = .ok (.iconst 1, 1) := dc1_4 (by decide +kernel)
theorem dX11_darers_39 : decode cX11_darers 39 = .ok (.iload_n 2, 1) := dc1_28 (by decide +kernel)
theorem dX11_darers_40 : decode cX11_darers 40 = .ok (.ishl, 1) := dc1_120 (by decide +kernel)
theorem dX11_darers_41 : decode cX11_darers 41 = .ok (.ior, 1) := dc1_128 (by decide +kernel)
theorem dX11_darers_42 : decode cX11_darers 42 = .ok (.istore_n 1, 1) := dc1_60 (by decide +kernel)
theorem dX11_darers_43 : decode cX11_darers 43 = .ok (.iinc 2 1, 3) := dc_iinc (m := 1) (by decide +kernel)
theorem dX11_darers_46 : decode cX11_darers 46 = .ok (.goto (-38), 3) := dcs_167 (n := 65498) (by decide +kernel)
theorem dX11_darers_49 : decode cX11_darers 49 = .ok (.iload_n 1, 1) := dc1_27 (by decide +kernel)
theorem dX11_darers_50 : decode cX11_darers 50 = .ok (.ireturn, 1) := dc1_172 (by decide +kernel)
theorem ggX11_open_X11_copies : GoodIn wsX11_open wsX11_copies := gi_sub (fun w h => List.mem_cons_of_mem _ (List.mem_append_left _ (List.mem_append_right _ (List.mem_append_left _ h)))) gd_wsX11_copies
set_option maxRecDepth 20000 in
theorem gX11_open_X11_copies : GoodIn wsX11_open (wsV RX11 352 RX11 yX11_copies wsX11_copies) := goodIn_app (goodIn_r _ [3, 4, 5, 6] (by decide +kernel) (by decide +kernel)) ggX11_open_X11_copies
theorem ggX11_open_X11_mayAt : GoodIn wsX11_open wsX11_mayAt := gi_sub (fun w h => List.mem_cons_of_mem _ (List.mem_append_left _ (List.mem_append_right _ (List.mem_append_right _ (List.mem_append_left _ h))))) gd_wsX11_mayAt
set_option maxRecDepth 20000 in
theorem gX11_open_X11_mayAt : GoodIn wsX11_open (wsV RX11 309 RX11 yX11_mayAt wsX11_mayAt) := goodIn_app (goodIn_r _ [7, 8, 9, 6] (by decide +kernel) (by decide +kernel)) ggX11_open_X11_mayAt
theorem ggX11_open_X11_bits : GoodIn wsX11_open wsX11_bits := gi_sub (fun w h => List.mem_cons_of_mem _ (List.mem_append_left _ (List.mem_append_right _ (List.mem_append_right _ (List.mem_append_right _ h))))) gd_wsX11_bits
set_option maxRecDepth 20000 in
theorem gX11_open_X11_bits : GoodIn wsX11_open (va_wsS RX11 312 yX11_bits wsX11_bits) := goodIn_app (goodIn_of _ (by decide +kernel)) ggX11_open_X11_bits
theorem dX11_open_0 : decode cX11_open 0 = .ok (.aload_n 0, 1) := dc1_42 (by decide +kernel)
theorem dX11_open_1 : decode cX11_open 1 = .ok (.invokevirtual 352, 3) := dcw_182 (by decide +kernel)
theorem dX11_open_4 : decode cX11_open 4 = .ok (.iconst 0, 1) := dc1_3 (by decide +kernel)
theorem dX11_open_5 : decode cX11_open 5 = .ok (.istore_n 1, 1) := dc1_60 (by decide +kernel)
theorem dX11_open_6 : decode cX11_open 6 = .ok (.iconst 0, 1) := dc1_3 (by decide +kernel)
theorem dX11_open_7 : decode cX11_open 7 = .ok (.istore_n 2, 1) := dc1_61 (by decide +kernel)
theorem dX11_open_8 : decode cX11_open 8 = .ok (.iload_n 2, 1) := dc1_28 (by decide +kernel)
theorem dX11_open_9 : decode cX11_open 9 = .ok (.aload_n 0, 1) := dc1_42 (by decide +kernel)
theorem dX11_open_10 : decode cX11_open 10 = .ok (.getfield 40, 3) := dcw_180 (by decide +kernel)
theorem dX11_open_13 : decode cX11_open 13 = .ok (.aload_n 0, 1) := dc1_42 (by decide +kernel)
theorem dX11_open_14 : decode cX11_open 14 = .ok (.getfield 215, 3) := dcw_180 (by decide +kernel)
theorem dX11_open_17 : decode cX11_open 17 = .ok (.iaload, 1) := dc1_46 (by decide +kernel)
theorem dX11_open_18 : decode cX11_open 18 = .ok (.if_icmp .ge 27, 3) := dcs_162 (n := 27) (by decide +kernel)
theorem dX11_open_21 : decode cX11_open 21 = .ok (.aload_n 0, 1) := dc1_42 (by decide +kernel)
theorem dX11_open_22 : decode cX11_open 22 = .ok (.iload_n 2, 1) := dc1_28 (by decide +kernel)
theorem dX11_open_23 : decode cX11_open 23 = .ok (.invokevirtual 309, 3) := dcw_182 (by decide +kernel)
theorem dX11_open_26 : decode cX11_open 26 = .ok (.invokestatic 312, 3) := dcw_184 (by decide +kernel)
theorem dX11_open_29 : decode cX11_open 29 = .ok (.iconst 1, 1) := dc1_4 (by decide +kernel)
theorem dX11_open_30 : decode cX11_open 30 = .ok (.if_icmp .le 9, 3) := dcs_164 (n := 9) (by decide +kernel)
theorem dX11_open_33 : decode cX11_open 33 = .ok (.iload_n 1, 1) := dc1_27 (by decide +kernel)
theorem dX11_open_34 : decode cX11_open 34 = .ok (.iconst 1, 1) := dc1_4 (by decide +kernel)
theorem dX11_open_35 : decode cX11_open 35 = .ok (.iload_n 2, 1) := dc1_28 (by decide +kernel)
theorem dX11_open_36 : decode cX11_open 36 = .ok (.ishl, 1) := dc1_120 (by decide +kernel)
theorem dX11_open_37 : decode cX11_open 37 = .ok (.ior, 1) := dc1_128 (by decide +kernel)
theorem dX11_open_38 : decode cX11_open 38 = .ok (.istore_n 1, 1) := dc1_60 (by decide +kernel)
theorem dX11_open_39 : decode cX11_open 39 = .ok (.iinc 2 1, 3) := dc_iinc (m := 1) (by decide +kernel)
theorem dX11_open_42 : decode cX11_open 42 = .ok (.goto (-34), 3) := dcs_167 (n := 65502) (by decide +kernel)
theorem dX11_open_45 : decode cX11_open 45 = .ok (.iload_n 1, 1) := dc1_27 (by decide +kernel)
theorem dX11_open_46 : decode cX11_open 46 = .ok (.ireturn, 1) := dc1_172 (by decide +kernel)
theorem LX11_chosen_215 : Cond.fieldLink RX11 215 "GuessFerryModel" "live" "I" ∈ wsX11_chosen := by decide +kernel
theorem LX11_chosen_49 : Cond.fieldLink RX11 49 "GuessFerryModel" "parties" "[I" ∈ wsX11_chosen := by decide +kernel
theorem inX11_chosen_X11 : ∀ w ∈ u_ws RX11 TX11 58, w ∈ wsX11_chosen := by decide +kernel
set_option maxHeartbeats 4000000 in
set_option maxRecDepth 100000 in
theorem br_chosen_75 {l : Launch} {dC : Nat → ClassId} {dI : Nat → Nat → Nat} {cB cI cJ cZ cS : ClassId} {h : Nat} {a : Nat → Nat} {as : List Value} {r : Int32} {s' : RS} {k11 : RS → Int32 → Int32 → Int32 → Option (Int32 × RS)} (hk11 : ∀ (s : RS) (x1 : Int32) (x2 : Int32) (x3 : Int32), k11 s x1 x2 x3 = some (r, s') → BlkI l yX11_chosen wsX11_chosen ({ frames := 6, cells := 0, slots := 0, locals := 137 }) cX11_chosen 5 (some .int) (dC, dI) (tysA cB cI cJ cZ cS) as 11 (mwS cB cI cJ cZ h a s) [(0, .ref h), (1, .int x1), (2, .int x2), (3, .int x3)] [] (fun x u => x = r ∧ u = (mwS cB cI cJ cZ h a s'))) (s : RS) (x1 : Int32) (x2 : Int32) (x3 : Int32) (hB : r_chosen_75 k11 s x1 x2 x3 = some (r, s')) : BlkI l yX11_chosen wsX11_chosen ({ frames := 6, cells := 0, slots := 0, locals := 137 }) cX11_chosen 5 (some .int) (dC, dI) (tysA cB cI cJ cZ cS) as 75 (mwS cB cI cJ cZ h a s) [(0, .ref h), (1, .int x1), (2, .int x2), (3, .int x3)] [] (fun x u => x = r ∧ u = (mwS cB cI cJ cZ h a s')) := by
  intro p e s0 m below meth c A E H locs ls hP hD hS hl
  obtain ⟨C, hr, hlocks, hA, hK, hN⟩ := id E
  obtain ⟨hx, hb, hml, hown, hts⟩ := id C
  unfold r_chosen_75 at hB
  refine lv_iinc (v := (x3 + 1)) (lv' := [(3, .int (x3 + 1)), (0, .ref h), (1, .int x1), (2, .int x2)]) hx hb dX11_chosen_75 hl (k := 3) rfl (rfl) (by decide) rfl (fun ls hl => ?_)
  refine lv_goto (tgt := 11) hx hb dX11_chosen_78 (by decide) ?_
  exact hk11 _ _ _ _ hB p e s0 m below meth c A E H locs ls hP hD hS (lv_sub hl [1, 2, 3, 0] rfl)
set_option maxHeartbeats 4000000 in
set_option maxRecDepth 100000 in
theorem br_chosen_66 {l : Launch} {dC : Nat → ClassId} {dI : Nat → Nat → Nat} {cB cI cJ cZ cS : ClassId} {h : Nat} {a : Nat → Nat} {as : List Value} {r : Int32} {s' : RS} {k11 : RS → Int32 → Int32 → Int32 → Option (Int32 × RS)} (hk11 : ∀ (s : RS) (x1 : Int32) (x2 : Int32) (x3 : Int32), k11 s x1 x2 x3 = some (r, s') → BlkI l yX11_chosen wsX11_chosen ({ frames := 6, cells := 0, slots := 0, locals := 137 }) cX11_chosen 5 (some .int) (dC, dI) (tysA cB cI cJ cZ cS) as 11 (mwS cB cI cJ cZ h a s) [(0, .ref h), (1, .int x1), (2, .int x2), (3, .int x3)] [] (fun x u => x = r ∧ u = (mwS cB cI cJ cZ h a s'))) (s : RS) (x3 : Int32) (x4 : Int32) (hB : r_chosen_66 k11 s x3 x4 = some (r, s')) : BlkI l yX11_chosen wsX11_chosen ({ frames := 6, cells := 0, slots := 0, locals := 137 }) cX11_chosen 5 (some .int) (dC, dI) (tysA cB cI cJ cZ cS) as 66 (mwS cB cI cJ cZ h a s) [(0, .ref h), (3, .int x3), (4, .int x4)] [] (fun x u => x = r ∧ u = (mwS cB cI cJ cZ h a s')) := by
  intro p e s0 m below meth c A E H locs ls hP hD hS hl
  obtain ⟨C, hr, hlocks, hA, hK, hN⟩ := id E
  obtain ⟨hx, hb, hml, hown, hts⟩ := id C
  unfold r_chosen_66 at hB
  refine lv_iload_n hx hb dX11_chosen_66 rfl (lv_at hl 1 rfl) ?_
  refine lv_istore_n (lv' := [(1, .int x3), (0, .ref h), (3, .int x3), (4, .int x4)]) hx hb dX11_chosen_67 rfl hl (by decide) rfl (fun ls hl => ?_)
  refine lv_aload_n hx hb dX11_chosen_68 rfl (lv_at hl 1 rfl) ?_
  refine lv_iload hx hb dX11_chosen_69 (lv_at hl 3 rfl) ?_
  obtain ⟨q_, s1, hc, hB⟩ := bindI_inv hB
  refine q_goiF (va_runV (As := [.int x4]) (rest := []) C (cr_chanceOf hc _) (cwV 1 hts gX11_chosen_X11_chanceOf rfl rfl rfl (by decide +kernel) ⟨Nat.le_of_ble_eq_true rfl, Nat.le_of_ble_eq_true rfl⟩) (q_preV hK hP (ci := 11) (q0 := 0) rfl rfl rfl (q_preF hN hK hP hD)) rfl rfl hl.1 rfl (lv_room (Nat.le_of_ble_eq_true rfl)) dX11_chosen_71 ⟨Nat.le_of_ble_eq_true rfl, Nat.le_of_ble_eq_true rfl⟩) hD hS hA (fun r2 w1 H locs hw hP hD hS => ?_)
  obtain ⟨hq_, hw⟩ := hw; subst hw; subst hq_
  refine lv_istore_n (lv' := [(2, .int r2), (1, .int x3), (0, .ref h), (3, .int x3), (4, .int x4)]) hx hb dX11_chosen_74 rfl hl (by decide) rfl (fun ls hl => ?_)
  exact br_chosen_75 (hk11) _ _ _ _ hB p e s0 m below meth c A E H locs ls hP hD hS (lv_sub hl [2, 1, 0, 3] rfl)
set_option maxHeartbeats 4000000 in
set_option maxRecDepth 100000 in
theorem br_chosen_42 {l : Launch} {dC : Nat → ClassId} {dI : Nat → Nat → Nat} {cB cI cJ cZ cS : ClassId} {h : Nat} {a : Nat → Nat} {as : List Value} {r : Int32} {s' : RS} {k11 : RS → Int32 → Int32 → Int32 → Option (Int32 × RS)} (hk11 : ∀ (s : RS) (x1 : Int32) (x2 : Int32) (x3 : Int32), k11 s x1 x2 x3 = some (r, s') → BlkI l yX11_chosen wsX11_chosen ({ frames := 6, cells := 0, slots := 0, locals := 137 }) cX11_chosen 5 (some .int) (dC, dI) (tysA cB cI cJ cZ cS) as 11 (mwS cB cI cJ cZ h a s) [(0, .ref h), (1, .int x1), (2, .int x2), (3, .int x3)] [] (fun x u => x = r ∧ u = (mwS cB cI cJ cZ h a s'))) (s : RS) (x1 : Int32) (x2 : Int32) (x3 : Int32) (t0 : Int32) (hB : r_chosen_42 k11 s x1 x2 x3 t0 = some (r, s')) : BlkI l yX11_chosen wsX11_chosen ({ frames := 6, cells := 0, slots := 0, locals := 137 }) cX11_chosen 5 (some .int) (dC, dI) (tysA cB cI cJ cZ cS) as 42 (mwS cB cI cJ cZ h a s) [(0, .ref h), (1, .int x1), (2, .int x2), (3, .int x3)] [.int t0] (fun x u => x = r ∧ u = (mwS cB cI cJ cZ h a s')) := by
  intro p e s0 m below meth c A E H locs ls hP hD hS hl
  obtain ⟨C, hr, hlocks, hA, hK, hN⟩ := id E
  obtain ⟨hx, hb, hml, hown, hts⟩ := id C
  unfold r_chosen_42 at hB
  refine lv_istore (lv' := [(4, .int t0), (0, .ref h), (1, .int x1), (2, .int x2), (3, .int x3)]) hx hb dX11_chosen_42 hl (by decide) rfl (fun ls hl => ?_)
  refine lv_iload hx hb dX11_chosen_44 (lv_at hl 0 rfl) ?_
  refine lv_if_lt (tgt := 75) hx hb dX11_chosen_46 (by decide) (fun c1 => ?_) (fun c1 => ?_)
  · have hB := if_p hB c1
    exact br_chosen_75 (hk11) _ _ _ _ hB p e s0 m below meth c A E H locs ls hP hD hS (lv_sub hl [1, 2, 3, 4] rfl)
  · have hB := if_n hB c1
    refine lv_iload_n hx hb dX11_chosen_49 rfl (lv_at hl 2 rfl) ?_
    refine lv_if_lt (tgt := 66) hx hb dX11_chosen_50 (by decide) (fun c2 => ?_) (fun c2 => ?_)
    · have hB := if_p hB c2
      exact br_chosen_66 (hk11) _ _ _ hB p e s0 m below meth c A E H locs ls hP hD hS (lv_sub hl [1, 4, 0] rfl)
    · have hB := if_n hB c2
      refine lv_aload_n hx hb dX11_chosen_53 rfl (lv_at hl 1 rfl) ?_
      refine lv_iload hx hb dX11_chosen_54 (lv_at hl 0 rfl) ?_
      obtain ⟨q_, s3, hc, hB⟩ := bindI_inv hB
      refine q_goiF (va_runV (As := [.int t0]) (rest := []) C (cr_chanceOf hc _) (cwV 1 hts gX11_chosen_X11_chanceOf rfl rfl rfl (by decide +kernel) ⟨Nat.le_of_ble_eq_true rfl, Nat.le_of_ble_eq_true rfl⟩) (q_preV hK hP (ci := 11) (q0 := 0) rfl rfl rfl (q_preF hN hK hP hD)) rfl rfl hl.1 rfl (lv_room (Nat.le_of_ble_eq_true rfl)) dX11_chosen_56 ⟨Nat.le_of_ble_eq_true rfl, Nat.le_of_ble_eq_true rfl⟩) hD hS hA (fun r4 w1 H locs hw hP hD hS => ?_)
      obtain ⟨hq_, hw⟩ := hw; subst hw; subst hq_
      refine lv_iload_n hx hb dX11_chosen_59 rfl (lv_at hl 3 rfl) ?_
      refine lv_icmp_gt (tgt := 66) hx hb dX11_chosen_60 (by decide) (fun c5 => ?_) (fun c5 => ?_)
      · have hB := if_p hB c5
        exact br_chosen_66 (hk11) _ _ _ hB p e s0 m below meth c A E H locs ls hP hD hS (lv_sub hl [1, 4, 0] rfl)
      · have hB := if_n hB c5
        refine lv_goto (tgt := 75) hx hb dX11_chosen_63 (by decide) ?_
        exact br_chosen_75 (hk11) _ _ _ _ hB p e s0 m below meth c A E H locs ls hP hD hS (lv_sub hl [1, 2, 3, 4] rfl)
set_option maxHeartbeats 4000000 in
set_option maxRecDepth 100000 in
theorem br_chosen_11 {l : Launch} {dC : Nat → ClassId} {dI : Nat → Nat → Nat} {cB cI cJ cZ cS : ClassId} {h : Nat} {a : Nat → Nat} {as : List Value} {r : Int32} {s' : RS} {k11 : RS → Int32 → Int32 → Int32 → Option (Int32 × RS)} (hk11 : ∀ (s : RS) (x1 : Int32) (x2 : Int32) (x3 : Int32), k11 s x1 x2 x3 = some (r, s') → BlkI l yX11_chosen wsX11_chosen ({ frames := 6, cells := 0, slots := 0, locals := 137 }) cX11_chosen 5 (some .int) (dC, dI) (tysA cB cI cJ cZ cS) as 11 (mwS cB cI cJ cZ h a s) [(0, .ref h), (1, .int x1), (2, .int x2), (3, .int x3)] [] (fun x u => x = r ∧ u = (mwS cB cI cJ cZ h a s'))) (s : RS) (x1 : Int32) (x2 : Int32) (x3 : Int32) (hB : r_chosen_11 k11 s x1 x2 x3 = some (r, s')) : BlkI l yX11_chosen wsX11_chosen ({ frames := 6, cells := 0, slots := 0, locals := 137 }) cX11_chosen 5 (some .int) (dC, dI) (tysA cB cI cJ cZ cS) as 11 (mwS cB cI cJ cZ h a s) [(0, .ref h), (1, .int x1), (2, .int x2), (3, .int x3)] [] (fun x u => x = r ∧ u = (mwS cB cI cJ cZ h a s')) := by
  intro p e s0 m below meth c A E H locs ls hP hD hS hl
  obtain ⟨C, hr, hlocks, hA, hK, hN⟩ := id E
  obtain ⟨hx, hb, hml, hown, hts⟩ := id C
  unfold r_chosen_11 at hB
  refine lv_iload_n hx hb dX11_chosen_11 rfl (lv_at hl 3 rfl) ?_
  refine lv_aload_n hx hb dX11_chosen_12 rfl (lv_at hl 0 rfl) ?_
  refine q_get (v := .ref (a 23)) C inX11_chosen_X11 hK hP 0 rfl rfl 23 (by decide) rfl LX11_chosen_49 rfl dX11_chosen_13 ?_
  refine lv_aload_n hx hb dX11_chosen_16 rfl (lv_at hl 0 rfl) ?_
  refine q_get (v := .int (s.v 18)) C inX11_chosen_X11 hK hP 0 rfl rfl 18 (by decide) rfl LX11_chosen_215 rfl dX11_chosen_17 ?_
  obtain ⟨g1, hB⟩ := guard_inv hB
  refine q_iald (x := (s.f 23 (Int32.toNatClampNeg (s.v 18)))) C hK hP 11 1 rfl rfl (vpb_in g1) dX11_chosen_20 rfl ?_
  refine lv_icmp_ge (tgt := 81) hx hb dX11_chosen_21 (by decide) (fun c2 => ?_) (fun c2 => ?_)
  · have hB := if_p hB c2
    refine lv_iload_n hx hb dX11_chosen_81 rfl (lv_at hl 1 rfl) ?_
    exact q_iret C hr hlocks hK hP hD hS (Nat.le_of_ble_eq_true rfl) (Nat.le_of_ble_eq_true rfl) dX11_chosen_82 (by cases hB; exact ⟨rfl, rfl⟩)
  · have hB := if_n hB c2
    refine lv_aload_n hx hb dX11_chosen_24 rfl (lv_at hl 0 rfl) ?_
    refine lv_iload_n hx hb dX11_chosen_25 rfl (lv_at hl 3 rfl) ?_
    obtain ⟨q_, s3, hc, hB⟩ := bindI_inv hB
    refine q_goiF (va_runV (As := [.int x3]) (rest := []) C (cr_isHere hc _) (cwV 1 hts gX11_chosen_X11_isHere rfl rfl rfl (by decide +kernel) ⟨Nat.le_of_ble_eq_true rfl, Nat.le_of_ble_eq_true rfl⟩) (q_preV hK hP (ci := 11) (q0 := 0) rfl rfl rfl (q_preF hN hK hP hD)) rfl rfl hl.1 rfl (lv_room (Nat.le_of_ble_eq_true rfl)) dX11_chosen_26 ⟨Nat.le_of_ble_eq_true rfl, Nat.le_of_ble_eq_true rfl⟩) hD hS hA (fun r4 w1 H locs hw hP hD hS => ?_)
    obtain ⟨hq_, hw⟩ := hw; subst hw; subst hq_
    refine lv_if_eq (tgt := 40) hx hb dX11_chosen_29 (by decide) (fun c5 => ?_) (fun c5 => ?_)
    · have hB := if_p hB c5
      refine lv_bipush (v := (-2)) hx hb dX11_chosen_40 (by decide) ?_
      exact br_chosen_42 (hk11) _ _ _ _ _ hB p e s0 m below meth c A E H locs ls hP hD hS (lv_sub hl [0, 1, 2, 3] rfl)
    · have hB := if_n hB c5
      refine lv_aload_n hx hb dX11_chosen_32 rfl (lv_at hl 0 rfl) ?_
      refine lv_iload_n hx hb dX11_chosen_33 rfl (lv_at hl 3 rfl) ?_
      obtain ⟨q_, s6, hc, hB⟩ := bindI_inv hB
      refine q_goiF (va_runV (As := [.int x3]) (rest := []) C (cr_bestFor hc _) (cwV 1 hts gX11_chosen_X11_bestFor rfl rfl rfl (by decide +kernel) ⟨Nat.le_of_ble_eq_true rfl, Nat.le_of_ble_eq_true rfl⟩) (q_preV hK hP (ci := 11) (q0 := 0) rfl rfl rfl (q_preF hN hK hP hD)) rfl rfl hl.1 rfl (lv_room (Nat.le_of_ble_eq_true rfl)) dX11_chosen_34 ⟨Nat.le_of_ble_eq_true rfl, Nat.le_of_ble_eq_true rfl⟩) hD hS hA (fun r7 w1 H locs hw hP hD hS => ?_)
      obtain ⟨hq_, hw⟩ := hw; subst hw; subst hq_
      refine lv_goto (tgt := 42) hx hb dX11_chosen_37 (by decide) ?_
      exact br_chosen_42 (hk11) _ _ _ _ _ hB p e s0 m below meth c A E H locs ls hP hD hS (lv_sub hl [0, 1, 2, 3] rfl)
theorem br_chosen_11L {l : Launch} {dC : Nat → ClassId} {dI : Nat → Nat → Nat} {cB cI cJ cZ cS : ClassId} {h : Nat} {a : Nat → Nat} {as : List Value} {r : Int32} {s' : RS} : ∀ (n : Nat) (s : RS) (x1 : Int32) (x2 : Int32) (x3 : Int32), r_chosen_11L n s x1 x2 x3 = some (r, s') → BlkI l yX11_chosen wsX11_chosen ({ frames := 6, cells := 0, slots := 0, locals := 137 }) cX11_chosen 5 (some .int) (dC, dI) (tysA cB cI cJ cZ cS) as 11 (mwS cB cI cJ cZ h a s) [(0, .ref h), (1, .int x1), (2, .int x2), (3, .int x3)] [] (fun x u => x = r ∧ u = (mwS cB cI cJ cZ h a s')) := by
  intro n
  induction n with
  | zero => intro s x1 x2 x3 hB; exact none_ne hB
  | succ n ih => intro s x1 x2 x3 hB; exact br_chosen_11 ih _ _ _ _ hB
set_option maxHeartbeats 4000000 in
set_option maxRecDepth 100000 in
theorem br_chosen {l : Launch} {dC : Nat → ClassId} {dI : Nat → Nat → Nat} {cB cI cJ cZ cS : ClassId} {h : Nat} {a : Nat → Nat} {as : List Value} {r : Int32} {s' : RS} (s : RS) (hB : r_chosen s = some (r, s')) : BlkI l yX11_chosen wsX11_chosen ({ frames := 6, cells := 0, slots := 0, locals := 137 }) cX11_chosen 5 (some .int) (dC, dI) (tysA cB cI cJ cZ cS) as 0 (mwS cB cI cJ cZ h a s) [(0, .ref h)] [] (fun x u => x = r ∧ u = (mwS cB cI cJ cZ h a s')) := by
  intro p e s0 m below meth c A E H locs ls hP hD hS hl
  obtain ⟨C, hr, hlocks, hA, hK, hN⟩ := id E
  obtain ⟨hx, hb, hml, hown, hts⟩ := id C
  unfold r_chosen at hB
  refine lv_aload_n hx hb dX11_chosen_0 rfl (lv_at hl 0 rfl) ?_
  obtain ⟨s1, hc, hB⟩ := bindP_inv hB
  refine q_govF (va_runV (As := []) (rest := []) C (cr_copies hc _) (cwV 0 hts gX11_chosen_X11_copies rfl rfl rfl (by decide +kernel) ⟨Nat.le_of_ble_eq_true rfl, Nat.le_of_ble_eq_true rfl⟩) (q_preV hK hP (ci := 11) (q0 := 0) rfl rfl rfl (q_preF hN hK hP hD)) rfl rfl hl.1 rfl (lv_room (Nat.le_of_ble_eq_true rfl)) dX11_chosen_1 ⟨Nat.le_of_ble_eq_true rfl, Nat.le_of_ble_eq_true rfl⟩) hD hS hA (fun w1 H locs hw hP hD hS => ?_)
  subst hw
  refine lv_bipush (v := (-2)) hx hb dX11_chosen_4 (by decide) ?_
  refine lv_istore_n (lv' := [(1, .int (-2)), (0, .ref h)]) hx hb dX11_chosen_6 rfl hl (by decide) rfl (fun ls hl => ?_)
  refine lv_iconst (v := 0) hx hb dX11_chosen_7 (by decide) ?_
  refine lv_istore_n (lv' := [(2, .int 0), (1, .int (-2)), (0, .ref h)]) hx hb dX11_chosen_8 rfl hl (by decide) rfl (fun ls hl => ?_)
  refine lv_iconst (v := 0) hx hb dX11_chosen_9 (by decide) ?_
  refine lv_istore_n (lv' := [(3, .int 0), (2, .int 0), (1, .int (-2)), (0, .ref h)]) hx hb dX11_chosen_10 rfl hl (by decide) rfl (fun ls hl => ?_)
  exact br_chosen_11L fu _ _ _ _ hB p e s0 m below meth c A E H locs ls hP hD hS (lv_sub hl [3, 2, 1, 0] rfl)
theorem cr_chosen {l : Launch} {dC : Nat → ClassId} {dI : Nat → Nat → Nat} {cB cI cJ cZ cS : ClassId} {h : Nat} {a : Nat → Nat} {r : Int32} {s' : RS} {s : RS} (hB : r_chosen s = some (r, s')) : CI l yX11_chosen wsX11_chosen ({ frames := 6, cells := 0, slots := 0, locals := 137 }) (dC, dI) (tysA cB cI cJ cZ cS) (mwS cB cI cJ cZ h a s) [.ref h] (fun x u => x = r ∧ u = (mwS cB cI cJ cZ h a s')) :=
  CI_of (cc := cX11_chosen) (maxL := 5) (ret := (some .int)) (by decide) rfl (Nat.le_of_ble_eq_true rfl) (br_chosen _ hB)
theorem LX11_manyIn_101 : Cond.fieldLink RX11 101 "GuessFerryModel" "row" "[I" ∈ wsX11_manyIn := by decide +kernel
theorem LX11_manyIn_215 : Cond.fieldLink RX11 215 "GuessFerryModel" "live" "I" ∈ wsX11_manyIn := by decide +kernel
theorem LX11_manyIn_49 : Cond.fieldLink RX11 49 "GuessFerryModel" "parties" "[I" ∈ wsX11_manyIn := by decide +kernel
theorem inX11_manyIn_X11 : ∀ w ∈ u_ws RX11 TX11 58, w ∈ wsX11_manyIn := fun _ h => List.mem_cons_of_mem _ (List.mem_append_right _ h)
set_option maxHeartbeats 4000000 in
set_option maxRecDepth 100000 in
theorem br_manyIn_33 {l : Launch} {dC : Nat → ClassId} {dI : Nat → Nat → Nat} {cB cI cJ cZ cS : ClassId} {h : Nat} {a : Nat → Nat} {as : List Value} {r : Int32} {s' : RS} {k4 : RS → Int32 → Int32 → Int32 → Option (Int32 × RS)} (hk4 : ∀ (s : RS) (x1 : Int32) (x2 : Int32) (x3 : Int32), k4 s x1 x2 x3 = some (r, s') → BlkI l yX11_manyIn wsX11_manyIn ({ frames := 0, cells := 0, slots := 0, locals := 0 }) cX11_manyIn 4 (some .int) (dC, dI) (tysA cB cI cJ cZ cS) as 4 (mwS cB cI cJ cZ h a s) [(0, .ref h), (1, .int x1), (2, .int x2), (3, .int x3)] [] (fun x u => x = r ∧ u = (mwS cB cI cJ cZ h a s'))) (s : RS) (x1 : Int32) (x2 : Int32) (x3 : Int32) (hB : r_manyIn_33 k4 s x1 x2 x3 = some (r, s')) : BlkI l yX11_manyIn wsX11_manyIn ({ frames := 0, cells := 0, slots := 0, locals := 0 }) cX11_manyIn 4 (some .int) (dC, dI) (tysA cB cI cJ cZ cS) as 33 (mwS cB cI cJ cZ h a s) [(0, .ref h), (1, .int x1), (2, .int x2), (3, .int x3)] [] (fun x u => x = r ∧ u = (mwS cB cI cJ cZ h a s')) := by
  intro p e s0 m below meth c A E H locs ls hP hD hS hl
  obtain ⟨C, hr, hlocks, hA, hK, hN⟩ := id E
  obtain ⟨hx, hb, hml, hown, hts⟩ := id C
  unfold r_manyIn_33 at hB
  refine lv_iinc (v := (x3 + 1)) (lv' := [(3, .int (x3 + 1)), (0, .ref h), (1, .int x1), (2, .int x2)]) hx hb dX11_manyIn_33 hl (k := 3) rfl (rfl) (by decide) rfl (fun ls hl => ?_)
  refine lv_goto (tgt := 4) hx hb dX11_manyIn_36 (by decide) ?_
  exact hk4 _ _ _ _ hB p e s0 m below meth c A E H locs ls hP hD hS (lv_sub hl [1, 2, 3, 0] rfl)
set_option maxHeartbeats 4000000 in
set_option maxRecDepth 100000 in
theorem br_manyIn_4 {l : Launch} {dC : Nat → ClassId} {dI : Nat → Nat → Nat} {cB cI cJ cZ cS : ClassId} {h : Nat} {a : Nat → Nat} {as : List Value} {r : Int32} {s' : RS} {k4 : RS → Int32 → Int32 → Int32 → Option (Int32 × RS)} (hk4 : ∀ (s : RS) (x1 : Int32) (x2 : Int32) (x3 : Int32), k4 s x1 x2 x3 = some (r, s') → BlkI l yX11_manyIn wsX11_manyIn ({ frames := 0, cells := 0, slots := 0, locals := 0 }) cX11_manyIn 4 (some .int) (dC, dI) (tysA cB cI cJ cZ cS) as 4 (mwS cB cI cJ cZ h a s) [(0, .ref h), (1, .int x1), (2, .int x2), (3, .int x3)] [] (fun x u => x = r ∧ u = (mwS cB cI cJ cZ h a s'))) (s : RS) (x1 : Int32) (x2 : Int32) (x3 : Int32) (hB : r_manyIn_4 k4 s x1 x2 x3 = some (r, s')) : BlkI l yX11_manyIn wsX11_manyIn ({ frames := 0, cells := 0, slots := 0, locals := 0 }) cX11_manyIn 4 (some .int) (dC, dI) (tysA cB cI cJ cZ cS) as 4 (mwS cB cI cJ cZ h a s) [(0, .ref h), (1, .int x1), (2, .int x2), (3, .int x3)] [] (fun x u => x = r ∧ u = (mwS cB cI cJ cZ h a s')) := by
  intro p e s0 m below meth c A E H locs ls hP hD hS hl
  obtain ⟨C, hr, hlocks, hA, hK, hN⟩ := id E
  obtain ⟨hx, hb, hml, hown, hts⟩ := id C
  unfold r_manyIn_4 at hB
  refine lv_iload_n hx hb dX11_manyIn_4 rfl (lv_at hl 3 rfl) ?_
  refine lv_aload_n hx hb dX11_manyIn_5 rfl (lv_at hl 0 rfl) ?_
  refine q_get (v := .ref (a 23)) C inX11_manyIn_X11 hK hP 0 rfl rfl 23 (by decide) rfl LX11_manyIn_49 rfl dX11_manyIn_6 ?_
  refine lv_aload_n hx hb dX11_manyIn_9 rfl (lv_at hl 0 rfl) ?_
  refine q_get (v := .int (s.v 18)) C inX11_manyIn_X11 hK hP 0 rfl rfl 18 (by decide) rfl LX11_manyIn_215 rfl dX11_manyIn_10 ?_
  obtain ⟨g1, hB⟩ := guard_inv hB
  refine q_iald (x := (s.f 23 (Int32.toNatClampNeg (s.v 18)))) C hK hP 11 1 rfl rfl (vpb_in g1) dX11_manyIn_13 rfl ?_
  refine lv_icmp_ge (tgt := 39) hx hb dX11_manyIn_14 (by decide) (fun c2 => ?_) (fun c2 => ?_)
  · have hB := if_p hB c2
    refine lv_iload_n hx hb dX11_manyIn_39 rfl (lv_at hl 2 rfl) ?_
    exact q_iret C hr hlocks hK hP hD hS (Nat.le_of_ble_eq_true rfl) (Nat.le_of_ble_eq_true rfl) dX11_manyIn_40 (by cases hB; exact ⟨rfl, rfl⟩)
  · have hB := if_n hB c2
    refine lv_aload_n hx hb dX11_manyIn_17 rfl (lv_at hl 0 rfl) ?_
    refine q_get (v := .ref (a 44)) C inX11_manyIn_X11 hK hP 0 rfl rfl 44 (by decide) rfl LX11_manyIn_101 rfl dX11_manyIn_18 ?_
    refine lv_bipush (v := 15) hx hb dX11_manyIn_21 (by decide) ?_
    refine lv_iload_n hx hb dX11_manyIn_23 rfl (lv_at hl 3 rfl) ?_
    refine lv_iadd hx hb dX11_manyIn_24 ?_
    obtain ⟨g3, hB⟩ := guard_inv hB
    refine q_iald (x := (s.f 44 (Int32.toNatClampNeg (15 + x3)))) C hK hP 28 1 rfl rfl (vpb_in g3) dX11_manyIn_25 rfl ?_
    refine lv_iload_n hx hb dX11_manyIn_26 rfl (lv_at hl 1 rfl) ?_
    refine lv_icmp_ne (tgt := 33) hx hb dX11_manyIn_27 (by decide) (fun c4 => ?_) (fun c4 => ?_)
    · have hB := if_n hB c4
      exact br_manyIn_33 (hk4) _ _ _ _ hB p e s0 m below meth c A E H locs ls hP hD hS (lv_sub hl [0, 1, 2, 3] rfl)
    · have hB := if_p hB c4
      refine lv_iinc (v := (x2 + 1)) (lv' := [(2, .int (x2 + 1)), (0, .ref h), (1, .int x1), (3, .int x3)]) hx hb dX11_manyIn_30 hl (k := 2) rfl (rfl) (by decide) rfl (fun ls hl => ?_)
      exact br_manyIn_33 (hk4) _ _ _ _ hB p e s0 m below meth c A E H locs ls hP hD hS (lv_sub hl [1, 2, 0, 3] rfl)
theorem br_manyIn_4L {l : Launch} {dC : Nat → ClassId} {dI : Nat → Nat → Nat} {cB cI cJ cZ cS : ClassId} {h : Nat} {a : Nat → Nat} {as : List Value} {r : Int32} {s' : RS} : ∀ (n : Nat) (s : RS) (x1 : Int32) (x2 : Int32) (x3 : Int32), r_manyIn_4L n s x1 x2 x3 = some (r, s') → BlkI l yX11_manyIn wsX11_manyIn ({ frames := 0, cells := 0, slots := 0, locals := 0 }) cX11_manyIn 4 (some .int) (dC, dI) (tysA cB cI cJ cZ cS) as 4 (mwS cB cI cJ cZ h a s) [(0, .ref h), (1, .int x1), (2, .int x2), (3, .int x3)] [] (fun x u => x = r ∧ u = (mwS cB cI cJ cZ h a s')) := by
  intro n
  induction n with
  | zero => intro s x1 x2 x3 hB; exact none_ne hB
  | succ n ih => intro s x1 x2 x3 hB; exact br_manyIn_4 ih _ _ _ _ hB
set_option maxHeartbeats 4000000 in
set_option maxRecDepth 100000 in
theorem br_manyIn {l : Launch} {dC : Nat → ClassId} {dI : Nat → Nat → Nat} {cB cI cJ cZ cS : ClassId} {h : Nat} {a : Nat → Nat} {as : List Value} {r : Int32} {s' : RS} (s : RS) (x1 : Int32) (hB : r_manyIn s x1 = some (r, s')) : BlkI l yX11_manyIn wsX11_manyIn ({ frames := 0, cells := 0, slots := 0, locals := 0 }) cX11_manyIn 4 (some .int) (dC, dI) (tysA cB cI cJ cZ cS) as 0 (mwS cB cI cJ cZ h a s) [(0, .ref h), (1, .int x1)] [] (fun x u => x = r ∧ u = (mwS cB cI cJ cZ h a s')) := by
  intro p e s0 m below meth c A E H locs ls hP hD hS hl
  obtain ⟨C, hr, hlocks, hA, hK, hN⟩ := id E
  obtain ⟨hx, hb, hml, hown, hts⟩ := id C
  unfold r_manyIn at hB
  refine lv_iconst (v := 0) hx hb dX11_manyIn_0 (by decide) ?_
  refine lv_istore_n (lv' := [(2, .int 0), (0, .ref h), (1, .int x1)]) hx hb dX11_manyIn_1 rfl hl (by decide) rfl (fun ls hl => ?_)
  refine lv_iconst (v := 0) hx hb dX11_manyIn_2 (by decide) ?_
  refine lv_istore_n (lv' := [(3, .int 0), (2, .int 0), (0, .ref h), (1, .int x1)]) hx hb dX11_manyIn_3 rfl hl (by decide) rfl (fun ls hl => ?_)
  exact br_manyIn_4L fu _ _ _ _ hB p e s0 m below meth c A E H locs ls hP hD hS (lv_sub hl [2, 3, 1, 0] rfl)
theorem cr_manyIn {l : Launch} {dC : Nat → ClassId} {dI : Nat → Nat → Nat} {cB cI cJ cZ cS : ClassId} {h : Nat} {a : Nat → Nat} {r : Int32} {s' : RS} {s : RS} {x1 : Int32} (hB : r_manyIn s x1 = some (r, s')) : CI l yX11_manyIn wsX11_manyIn ({ frames := 0, cells := 0, slots := 0, locals := 0 }) (dC, dI) (tysA cB cI cJ cZ cS) (mwS cB cI cJ cZ h a s) [.ref h, .int x1] (fun x u => x = r ∧ u = (mwS cB cI cJ cZ h a s')) :=
  CI_of (cc := cX11_manyIn) (maxL := 4) (ret := (some .int)) (by decide) rfl (Nat.le_of_ble_eq_true rfl) (br_manyIn _ _ hB)
theorem LX11_allGo_101 : Cond.fieldLink RX11 101 "GuessFerryModel" "row" "[I" ∈ wsX11_allGo := by decide +kernel
theorem LX11_allGo_215 : Cond.fieldLink RX11 215 "GuessFerryModel" "live" "I" ∈ wsX11_allGo := by decide +kernel
theorem LX11_allGo_40 : Cond.fieldLink RX11 40 "GuessFerryModel" "waves" "[I" ∈ wsX11_allGo := by decide +kernel
theorem LX11_allGo_49 : Cond.fieldLink RX11 49 "GuessFerryModel" "parties" "[I" ∈ wsX11_allGo := by decide +kernel
theorem LX11_allGo_98 : Cond.fieldLink RX11 98 "GuessFerryModel" "now" "[I" ∈ wsX11_allGo := by decide +kernel
theorem inX11_allGo_X11 : ∀ w ∈ u_ws RX11 TX11 58, w ∈ wsX11_allGo := by decide +kernel
set_option maxHeartbeats 4000000 in
set_option maxRecDepth 100000 in
theorem br_allGo_89 {l : Launch} {dC : Nat → ClassId} {dI : Nat → Nat → Nat} {cB cI cJ cZ cS : ClassId} {h : Nat} {a : Nat → Nat} {as : List Value} {r : Int32} {s' : RS} {k22 : RS → Int32 → Int32 → Int32 → Option (Int32 × RS)} (hk22 : ∀ (s : RS) (x1 : Int32) (x2 : Int32) (x3 : Int32), k22 s x1 x2 x3 = some (r, s') → BlkI l yX11_allGo wsX11_allGo ({ frames := 7, cells := 0, slots := 0, locals := 161 }) cX11_allGo 5 (some .int) (dC, dI) (tysA cB cI cJ cZ cS) as 22 (mwS cB cI cJ cZ h a s) [(0, .ref h), (1, .int x1), (2, .int x2), (3, .int x3)] [] (fun x u => x = r ∧ u = (mwS cB cI cJ cZ h a s'))) (s : RS) (x1 : Int32) (x2 : Int32) (x3 : Int32) (hB : r_allGo_89 k22 s x1 x2 x3 = some (r, s')) : BlkI l yX11_allGo wsX11_allGo ({ frames := 7, cells := 0, slots := 0, locals := 161 }) cX11_allGo 5 (some .int) (dC, dI) (tysA cB cI cJ cZ cS) as 89 (mwS cB cI cJ cZ h a s) [(0, .ref h), (1, .int x1), (2, .int x2), (3, .int x3)] [] (fun x u => x = r ∧ u = (mwS cB cI cJ cZ h a s')) := by
  intro p e s0 m below meth c A E H locs ls hP hD hS hl
  obtain ⟨C, hr, hlocks, hA, hK, hN⟩ := id E
  obtain ⟨hx, hb, hml, hown, hts⟩ := id C
  unfold r_allGo_89 at hB
  refine lv_iinc (v := (x3 + 1)) (lv' := [(3, .int (x3 + 1)), (0, .ref h), (1, .int x1), (2, .int x2)]) hx hb dX11_allGo_89 hl (k := 3) rfl (rfl) (by decide) rfl (fun ls hl => ?_)
  refine lv_goto (tgt := 22) hx hb dX11_allGo_92 (by decide) ?_
  exact hk22 _ _ _ _ hB p e s0 m below meth c A E H locs ls hP hD hS (lv_sub hl [1, 2, 3, 0] rfl)
set_option maxHeartbeats 4000000 in
set_option maxRecDepth 100000 in
theorem br_allGo_73 {l : Launch} {dC : Nat → ClassId} {dI : Nat → Nat → Nat} {cB cI cJ cZ cS : ClassId} {h : Nat} {a : Nat → Nat} {as : List Value} {r : Int32} {s' : RS} {k22 : RS → Int32 → Int32 → Int32 → Option (Int32 × RS)} (hk22 : ∀ (s : RS) (x1 : Int32) (x2 : Int32) (x3 : Int32), k22 s x1 x2 x3 = some (r, s') → BlkI l yX11_allGo wsX11_allGo ({ frames := 7, cells := 0, slots := 0, locals := 161 }) cX11_allGo 5 (some .int) (dC, dI) (tysA cB cI cJ cZ cS) as 22 (mwS cB cI cJ cZ h a s) [(0, .ref h), (1, .int x1), (2, .int x2), (3, .int x3)] [] (fun x u => x = r ∧ u = (mwS cB cI cJ cZ h a s'))) (s : RS) (x1 : Int32) (x2 : Int32) (x3 : Int32) (t0 : Int32) (hB : r_allGo_73 k22 s x1 x2 x3 t0 = some (r, s')) : BlkI l yX11_allGo wsX11_allGo ({ frames := 7, cells := 0, slots := 0, locals := 161 }) cX11_allGo 5 (some .int) (dC, dI) (tysA cB cI cJ cZ cS) as 73 (mwS cB cI cJ cZ h a s) [(0, .ref h), (1, .int x1), (2, .int x2), (3, .int x3)] [.int t0] (fun x u => x = r ∧ u = (mwS cB cI cJ cZ h a s')) := by
  intro p e s0 m below meth c A E H locs ls hP hD hS hl
  obtain ⟨C, hr, hlocks, hA, hK, hN⟩ := id E
  obtain ⟨hx, hb, hml, hown, hts⟩ := id C
  unfold r_allGo_73 at hB
  refine lv_istore (lv' := [(4, .int t0), (0, .ref h), (1, .int x1), (2, .int x2), (3, .int x3)]) hx hb dX11_allGo_73 hl (by decide) rfl (fun ls hl => ?_)
  refine lv_iload hx hb dX11_allGo_75 (lv_at hl 0 rfl) ?_
  refine lv_if_lt (tgt := 89) hx hb dX11_allGo_77 (by decide) (fun c1 => ?_) (fun c1 => ?_)
  · have hB := if_p hB c1
    exact br_allGo_89 (hk22) _ _ _ _ hB p e s0 m below meth c A E H locs ls hP hD hS (lv_sub hl [1, 2, 3, 4] rfl)
  · have hB := if_n hB c1
    refine lv_aload_n hx hb dX11_allGo_80 rfl (lv_at hl 1 rfl) ?_
    refine lv_iload_n hx hb dX11_allGo_81 rfl (lv_at hl 4 rfl) ?_
    refine lv_iload hx hb dX11_allGo_82 (lv_at hl 0 rfl) ?_
    refine lv_iload_n hx hb dX11_allGo_84 rfl (lv_at hl 3 rfl) ?_
    obtain ⟨q_, s2, hc, hB⟩ := bindI_inv hB
    refine q_goiF (va_runV (As := [.int x3, .int t0, .int x2]) (rest := []) C (cr_goesBy hc _) (cwV 3 hts gX11_allGo_X11_goesBy rfl rfl rfl (by decide +kernel) ⟨Nat.le_of_ble_eq_true rfl, Nat.le_of_ble_eq_true rfl⟩) (q_preV hK hP (ci := 11) (q0 := 0) rfl rfl rfl (q_preF hN hK hP hD)) rfl rfl hl.1 rfl (lv_room (Nat.le_of_ble_eq_true rfl)) dX11_allGo_85 ⟨Nat.le_of_ble_eq_true rfl, Nat.le_of_ble_eq_true rfl⟩) hD hS hA (fun r3 w1 H locs hw hP hD hS => ?_)
    obtain ⟨hq_, hw⟩ := hw; subst hw; subst hq_
    refine lv_pop hx hb dX11_allGo_88 rfl ?_
    exact br_allGo_89 (hk22) _ _ _ _ hB p e s0 m below meth c A E H locs ls hP hD hS (lv_sub hl [1, 2, 3, 4] rfl)
set_option maxHeartbeats 4000000 in
set_option maxRecDepth 100000 in
theorem br_allGo_71 {l : Launch} {dC : Nat → ClassId} {dI : Nat → Nat → Nat} {cB cI cJ cZ cS : ClassId} {h : Nat} {a : Nat → Nat} {as : List Value} {r : Int32} {s' : RS} {k22 : RS → Int32 → Int32 → Int32 → Option (Int32 × RS)} (hk22 : ∀ (s : RS) (x1 : Int32) (x2 : Int32) (x3 : Int32), k22 s x1 x2 x3 = some (r, s') → BlkI l yX11_allGo wsX11_allGo ({ frames := 7, cells := 0, slots := 0, locals := 161 }) cX11_allGo 5 (some .int) (dC, dI) (tysA cB cI cJ cZ cS) as 22 (mwS cB cI cJ cZ h a s) [(0, .ref h), (1, .int x1), (2, .int x2), (3, .int x3)] [] (fun x u => x = r ∧ u = (mwS cB cI cJ cZ h a s'))) (s : RS) (x1 : Int32) (x2 : Int32) (x3 : Int32) (hB : r_allGo_71 k22 s x1 x2 x3 = some (r, s')) : BlkI l yX11_allGo wsX11_allGo ({ frames := 7, cells := 0, slots := 0, locals := 161 }) cX11_allGo 5 (some .int) (dC, dI) (tysA cB cI cJ cZ cS) as 71 (mwS cB cI cJ cZ h a s) [(0, .ref h), (1, .int x1), (2, .int x2), (3, .int x3)] [] (fun x u => x = r ∧ u = (mwS cB cI cJ cZ h a s')) := by
  intro p e s0 m below meth c A E H locs ls hP hD hS hl
  obtain ⟨C, hr, hlocks, hA, hK, hN⟩ := id E
  obtain ⟨hx, hb, hml, hown, hts⟩ := id C
  unfold r_allGo_71 at hB
  refine lv_bipush (v := (-2)) hx hb dX11_allGo_71 (by decide) ?_
  exact br_allGo_73 (hk22) _ _ _ _ _ hB p e s0 m below meth c A E H locs ls hP hD hS (lv_sub hl [0, 1, 2, 3] rfl)
set_option maxHeartbeats 4000000 in
set_option maxRecDepth 100000 in
theorem br_allGo_22 {l : Launch} {dC : Nat → ClassId} {dI : Nat → Nat → Nat} {cB cI cJ cZ cS : ClassId} {h : Nat} {a : Nat → Nat} {as : List Value} {r : Int32} {s' : RS} {k22 : RS → Int32 → Int32 → Int32 → Option (Int32 × RS)} (hk22 : ∀ (s : RS) (x1 : Int32) (x2 : Int32) (x3 : Int32), k22 s x1 x2 x3 = some (r, s') → BlkI l yX11_allGo wsX11_allGo ({ frames := 7, cells := 0, slots := 0, locals := 161 }) cX11_allGo 5 (some .int) (dC, dI) (tysA cB cI cJ cZ cS) as 22 (mwS cB cI cJ cZ h a s) [(0, .ref h), (1, .int x1), (2, .int x2), (3, .int x3)] [] (fun x u => x = r ∧ u = (mwS cB cI cJ cZ h a s'))) (s : RS) (x1 : Int32) (x2 : Int32) (x3 : Int32) (hB : r_allGo_22 k22 s x1 x2 x3 = some (r, s')) : BlkI l yX11_allGo wsX11_allGo ({ frames := 7, cells := 0, slots := 0, locals := 161 }) cX11_allGo 5 (some .int) (dC, dI) (tysA cB cI cJ cZ cS) as 22 (mwS cB cI cJ cZ h a s) [(0, .ref h), (1, .int x1), (2, .int x2), (3, .int x3)] [] (fun x u => x = r ∧ u = (mwS cB cI cJ cZ h a s')) := by
  intro p e s0 m below meth c A E H locs ls hP hD hS hl
  obtain ⟨C, hr, hlocks, hA, hK, hN⟩ := id E
  obtain ⟨hx, hb, hml, hown, hts⟩ := id C
  unfold r_allGo_22 at hB
  refine lv_iload_n hx hb dX11_allGo_22 rfl (lv_at hl 3 rfl) ?_
  refine lv_aload_n hx hb dX11_allGo_23 rfl (lv_at hl 0 rfl) ?_
  refine q_get (v := .ref (a 23)) C inX11_allGo_X11 hK hP 0 rfl rfl 23 (by decide) rfl LX11_allGo_49 rfl dX11_allGo_24 ?_
  refine lv_aload_n hx hb dX11_allGo_27 rfl (lv_at hl 0 rfl) ?_
  refine q_get (v := .int (s.v 18)) C inX11_allGo_X11 hK hP 0 rfl rfl 18 (by decide) rfl LX11_allGo_215 rfl dX11_allGo_28 ?_
  obtain ⟨g1, hB⟩ := guard_inv hB
  refine q_iald (x := (s.f 23 (Int32.toNatClampNeg (s.v 18)))) C hK hP 11 1 rfl rfl (vpb_in g1) dX11_allGo_31 rfl ?_
  refine lv_icmp_ge (tgt := 95) hx hb dX11_allGo_32 (by decide) (fun c2 => ?_) (fun c2 => ?_)
  · have hB := if_p hB c2
    refine lv_iload_n hx hb dX11_allGo_95 rfl (lv_at hl 1 rfl) ?_
    refine lv_if_ne (tgt := 107) hx hb dX11_allGo_96 (by decide) (fun c3 => ?_) (fun c3 => ?_)
    · have hB := if_n hB c3
      refine lv_iload_n hx hb dX11_allGo_107 rfl (lv_at hl 1 rfl) ?_
      refine lv_iconst (v := 1) hx hb dX11_allGo_108 (by decide) ?_
      refine lv_icmp_ne (tgt := 120) hx hb dX11_allGo_109 (by decide) (fun c4 => ?_) (fun c4 => ?_)
      · have hB := if_n hB c4
        refine lv_aload_n hx hb dX11_allGo_120 rfl (lv_at hl 0 rfl) ?_
        refine q_get (v := .ref (a 44)) C inX11_allGo_X11 hK hP 0 rfl rfl 44 (by decide) rfl LX11_allGo_101 rfl dX11_allGo_121 ?_
        refine lv_bipush (v := 28) hx hb dX11_allGo_124 (by decide) ?_
        refine q_iald (x := (s.f 44 28)) C hK hP 28 1 rfl rfl (vp_lit (by decide +kernel)) dX11_allGo_126 rfl ?_
        refine lv_aload_n hx hb dX11_allGo_127 rfl (lv_at hl 0 rfl) ?_
        refine q_get (v := .ref (a 43)) C inX11_allGo_X11 hK hP 0 rfl rfl 43 (by decide) rfl LX11_allGo_98 rfl dX11_allGo_128 ?_
        refine lv_bipush (v := 28) hx hb dX11_allGo_131 (by decide) ?_
        refine q_iald (x := (s.f 43 28)) C hK hP 27 1 rfl rfl (vp_lit (by decide +kernel)) dX11_allGo_133 rfl ?_
        refine lv_isub hx hb dX11_allGo_134 ?_
        exact q_iret C hr hlocks hK hP hD hS (Nat.le_of_ble_eq_true rfl) (Nat.le_of_ble_eq_true rfl) dX11_allGo_135 (by cases hB; exact ⟨rfl, rfl⟩)
      · have hB := if_p hB c4
        refine lv_aload_n hx hb dX11_allGo_112 rfl (lv_at hl 0 rfl) ?_
        refine lv_iconst (v := 1) hx hb dX11_allGo_113 (by decide) ?_
        obtain ⟨q_, s5, hc, hB⟩ := bindI_inv hB
        refine q_goiF (va_runV (As := [.int 1]) (rest := []) C (cr_manyIn hc _) (cwV 1 hts gX11_allGo_X11_manyIn rfl rfl rfl (by decide +kernel) ⟨Nat.le_of_ble_eq_true rfl, Nat.le_of_ble_eq_true rfl⟩) (q_preV hK hP (ci := 11) (q0 := 0) rfl rfl rfl (q_preF hN hK hP hD)) rfl rfl hl.1 rfl (lv_room (Nat.le_of_ble_eq_true rfl)) dX11_allGo_114 ⟨Nat.le_of_ble_eq_true rfl, Nat.le_of_ble_eq_true rfl⟩) hD hS hA (fun r6 w1 H locs hw hP hD hS => ?_)
        obtain ⟨hq_, hw⟩ := hw; subst hw; subst hq_
        refine lv_goto (tgt := 135) hx hb dX11_allGo_117 (by decide) ?_
        exact q_iret C hr hlocks hK hP hD hS (Nat.le_of_ble_eq_true rfl) (Nat.le_of_ble_eq_true rfl) dX11_allGo_135 (by cases hB; exact ⟨rfl, rfl⟩)
    · have hB := if_p hB c3
      refine lv_aload_n hx hb dX11_allGo_99 rfl (lv_at hl 0 rfl) ?_
      refine lv_iconst (v := 2) hx hb dX11_allGo_100 (by decide) ?_
      obtain ⟨q_, s7, hc, hB⟩ := bindI_inv hB
      refine q_goiF (va_runV (As := [.int 2]) (rest := []) C (cr_manyIn hc _) (cwV 1 hts gX11_allGo_X11_manyIn rfl rfl rfl (by decide +kernel) ⟨Nat.le_of_ble_eq_true rfl, Nat.le_of_ble_eq_true rfl⟩) (q_preV hK hP (ci := 11) (q0 := 0) rfl rfl rfl (q_preF hN hK hP hD)) rfl rfl hl.1 rfl (lv_room (Nat.le_of_ble_eq_true rfl)) dX11_allGo_101 ⟨Nat.le_of_ble_eq_true rfl, Nat.le_of_ble_eq_true rfl⟩) hD hS hA (fun r8 w1 H locs hw hP hD hS => ?_)
      obtain ⟨hq_, hw⟩ := hw; subst hw; subst hq_
      refine lv_goto (tgt := 135) hx hb dX11_allGo_104 (by decide) ?_
      exact q_iret C hr hlocks hK hP hD hS (Nat.le_of_ble_eq_true rfl) (Nat.le_of_ble_eq_true rfl) dX11_allGo_135 (by cases hB; exact ⟨rfl, rfl⟩)
  · have hB := if_n hB c2
    refine lv_aload_n hx hb dX11_allGo_35 rfl (lv_at hl 0 rfl) ?_
    refine lv_iload_n hx hb dX11_allGo_36 rfl (lv_at hl 3 rfl) ?_
    obtain ⟨q_, s9, hc, hB⟩ := bindI_inv hB
    refine q_goiF (va_runV (As := [.int x3]) (rest := []) C (cr_isHere hc _) (cwV 1 hts gX11_allGo_X11_isHere rfl rfl rfl (by decide +kernel) ⟨Nat.le_of_ble_eq_true rfl, Nat.le_of_ble_eq_true rfl⟩) (q_preV hK hP (ci := 11) (q0 := 0) rfl rfl rfl (q_preF hN hK hP hD)) rfl rfl hl.1 rfl (lv_room (Nat.le_of_ble_eq_true rfl)) dX11_allGo_37 ⟨Nat.le_of_ble_eq_true rfl, Nat.le_of_ble_eq_true rfl⟩) hD hS hA (fun r10 w1 H locs hw hP hD hS => ?_)
    obtain ⟨hq_, hw⟩ := hw; subst hw; subst hq_
    refine lv_if_eq (tgt := 71) hx hb dX11_allGo_40 (by decide) (fun c11 => ?_) (fun c11 => ?_)
    · have hB := if_p hB c11
      exact br_allGo_71 (hk22) _ _ _ _ hB p e s0 m below meth c A E H locs ls hP hD hS (lv_sub hl [0, 1, 2, 3] rfl)
    · have hB := if_n hB c11
      refine lv_aload_n hx hb dX11_allGo_43 rfl (lv_at hl 0 rfl) ?_
      refine lv_iload_n hx hb dX11_allGo_44 rfl (lv_at hl 3 rfl) ?_
      obtain ⟨q_, s12, hc, hB⟩ := bindI_inv hB
      refine q_goiF (va_runV (As := [.int x3]) (rest := []) C (cr_doesDare hc _) (cwV 1 hts gX11_allGo_X11_doesDare rfl rfl rfl (by decide +kernel) ⟨Nat.le_of_ble_eq_true rfl, Nat.le_of_ble_eq_true rfl⟩) (q_preV hK hP (ci := 11) (q0 := 0) rfl rfl rfl (q_preF hN hK hP hD)) rfl rfl hl.1 rfl (lv_room (Nat.le_of_ble_eq_true rfl)) dX11_allGo_45 ⟨Nat.le_of_ble_eq_true rfl, Nat.le_of_ble_eq_true rfl⟩) hD hS hA (fun r13 w1 H locs hw hP hD hS => ?_)
      obtain ⟨hq_, hw⟩ := hw; subst hw; subst hq_
      refine lv_if_eq (tgt := 71) hx hb dX11_allGo_48 (by decide) (fun c14 => ?_) (fun c14 => ?_)
      · have hB := if_p hB c14
        exact br_allGo_71 (hk22) _ _ _ _ hB p e s0 m below meth c A E H locs ls hP hD hS (lv_sub hl [0, 1, 2, 3] rfl)
      · have hB := if_n hB c14
        refine lv_aload_n hx hb dX11_allGo_51 rfl (lv_at hl 0 rfl) ?_
        refine q_get (v := .ref (a 20)) C inX11_allGo_X11 hK hP 0 rfl rfl 20 (by decide) rfl LX11_allGo_40 rfl dX11_allGo_52 ?_
        refine lv_aload_n hx hb dX11_allGo_55 rfl (lv_at hl 0 rfl) ?_
        refine q_get (v := .int (s12.v 18)) C inX11_allGo_X11 hK hP 0 rfl rfl 18 (by decide) rfl LX11_allGo_215 rfl dX11_allGo_56 ?_
        obtain ⟨g15, hB⟩ := guard_inv hB
        refine q_iald (x := (s12.f 20 (Int32.toNatClampNeg (s12.v 18)))) C hK hP 8 1 rfl rfl (vpb_in g15) dX11_allGo_59 rfl ?_
        refine lv_if_le (tgt := 71) hx hb dX11_allGo_60 (by decide) (fun c16 => ?_) (fun c16 => ?_)
        · have hB := if_p hB c16
          exact br_allGo_71 (hk22) _ _ _ _ hB p e s0 m below meth c A E H locs ls hP hD hS (lv_sub hl [0, 1, 2, 3] rfl)
        · have hB := if_n hB c16
          refine lv_aload_n hx hb dX11_allGo_63 rfl (lv_at hl 0 rfl) ?_
          refine lv_iload_n hx hb dX11_allGo_64 rfl (lv_at hl 3 rfl) ?_
          obtain ⟨q_, s17, hc, hB⟩ := bindI_inv hB
          refine q_goiF (va_runV (As := [.int x3]) (rest := []) C (cr_bestFor hc _) (cwV 1 hts gX11_allGo_X11_bestFor rfl rfl rfl (by decide +kernel) ⟨Nat.le_of_ble_eq_true rfl, Nat.le_of_ble_eq_true rfl⟩) (q_preV hK hP (ci := 11) (q0 := 0) rfl rfl rfl (q_preF hN hK hP hD)) rfl rfl hl.1 rfl (lv_room (Nat.le_of_ble_eq_true rfl)) dX11_allGo_65 ⟨Nat.le_of_ble_eq_true rfl, Nat.le_of_ble_eq_true rfl⟩) hD hS hA (fun r18 w1 H locs hw hP hD hS => ?_)
          obtain ⟨hq_, hw⟩ := hw; subst hw; subst hq_
          refine lv_goto (tgt := 73) hx hb dX11_allGo_68 (by decide) ?_
          exact br_allGo_73 (hk22) _ _ _ _ _ hB p e s0 m below meth c A E H locs ls hP hD hS (lv_sub hl [0, 1, 2, 3] rfl)
theorem br_allGo_22L {l : Launch} {dC : Nat → ClassId} {dI : Nat → Nat → Nat} {cB cI cJ cZ cS : ClassId} {h : Nat} {a : Nat → Nat} {as : List Value} {r : Int32} {s' : RS} : ∀ (n : Nat) (s : RS) (x1 : Int32) (x2 : Int32) (x3 : Int32), r_allGo_22L n s x1 x2 x3 = some (r, s') → BlkI l yX11_allGo wsX11_allGo ({ frames := 7, cells := 0, slots := 0, locals := 161 }) cX11_allGo 5 (some .int) (dC, dI) (tysA cB cI cJ cZ cS) as 22 (mwS cB cI cJ cZ h a s) [(0, .ref h), (1, .int x1), (2, .int x2), (3, .int x3)] [] (fun x u => x = r ∧ u = (mwS cB cI cJ cZ h a s')) := by
  intro n
  induction n with
  | zero => intro s x1 x2 x3 hB; exact none_ne hB
  | succ n ih => intro s x1 x2 x3 hB; exact br_allGo_22 ih _ _ _ _ hB
set_option maxHeartbeats 4000000 in
set_option maxRecDepth 100000 in
theorem br_allGo {l : Launch} {dC : Nat → ClassId} {dI : Nat → Nat → Nat} {cB cI cJ cZ cS : ClassId} {h : Nat} {a : Nat → Nat} {as : List Value} {r : Int32} {s' : RS} (s : RS) (x1 : Int32) (hB : r_allGo s x1 = some (r, s')) : BlkI l yX11_allGo wsX11_allGo ({ frames := 7, cells := 0, slots := 0, locals := 161 }) cX11_allGo 5 (some .int) (dC, dI) (tysA cB cI cJ cZ cS) as 0 (mwS cB cI cJ cZ h a s) [(0, .ref h), (1, .int x1)] [] (fun x u => x = r ∧ u = (mwS cB cI cJ cZ h a s')) := by
  intro p e s0 m below meth c A E H locs ls hP hD hS hl
  obtain ⟨C, hr, hlocks, hA, hK, hN⟩ := id E
  obtain ⟨hx, hb, hml, hown, hts⟩ := id C
  unfold r_allGo at hB
  refine lv_iload_n hx hb dX11_allGo_0 rfl (lv_at hl 1 rfl) ?_
  refine lv_iconst (v := 0) hx hb dX11_allGo_1 (by decide) ?_
  refine lv_iconst (v := 2) hx hb dX11_allGo_2 (by decide) ?_
  obtain ⟨q_, hc, hB⟩ := bindP_inv hB
  refine q_goi0 (va_runS (As := [.int x1, .int 0, .int 2]) (rest := []) C (cr_in hc _) (va_cwS 3 hts gX11_allGo_X11_in rfl rfl rfl (by decide +kernel) ⟨Nat.le_of_ble_eq_true rfl, Nat.le_of_ble_eq_true rfl⟩) (q_pre0 hN hK) rfl rfl hl.1 rfl (lv_room (Nat.le_of_ble_eq_true rfl)) dX11_allGo_3 ⟨Nat.le_of_ble_eq_true rfl, Nat.le_of_ble_eq_true rfl⟩) hP hD hS hA (fun r1 w1 H locs hw hP hS => ?_)
  subst hw
  refine lv_if_ne (tgt := 11) hx hb dX11_allGo_6 (by decide) (fun c2 => ?_) (fun c2 => ?_)
  · have hB := if_n hB c2
    refine lv_aload_n hx hb dX11_allGo_11 rfl (lv_at hl 0 rfl) ?_
    obtain ⟨s3, hc, hB⟩ := bindP_inv hB
    refine q_govF (va_runV (As := []) (rest := []) C (cr_copies hc _) (cwV 0 hts gX11_allGo_X11_copies rfl rfl rfl (by decide +kernel) ⟨Nat.le_of_ble_eq_true rfl, Nat.le_of_ble_eq_true rfl⟩) (q_preV hK hP (ci := 11) (q0 := 0) rfl rfl rfl (q_preF hN hK hP hD)) rfl rfl hl.1 rfl (lv_room (Nat.le_of_ble_eq_true rfl)) dX11_allGo_12 ⟨Nat.le_of_ble_eq_true rfl, Nat.le_of_ble_eq_true rfl⟩) hD hS hA (fun w1 H locs hw hP hD hS => ?_)
    subst hw
    refine lv_aload_n hx hb dX11_allGo_15 rfl (lv_at hl 0 rfl) ?_
    obtain ⟨q_, s4, hc, hB⟩ := bindI_inv hB
    refine q_goiF (va_runV (As := []) (rest := []) C (cr_thereNumber hc _) (cwV 0 hts gX11_allGo_X11_thereNumber rfl rfl rfl (by decide +kernel) ⟨Nat.le_of_ble_eq_true rfl, Nat.le_of_ble_eq_true rfl⟩) (q_preV hK hP (ci := 11) (q0 := 0) rfl rfl rfl (q_preF hN hK hP hD)) rfl rfl hl.1 rfl (lv_room (Nat.le_of_ble_eq_true rfl)) dX11_allGo_16 ⟨Nat.le_of_ble_eq_true rfl, Nat.le_of_ble_eq_true rfl⟩) hD hS hA (fun r5 w1 H locs hw hP hD hS => ?_)
    obtain ⟨hq_, hw⟩ := hw; subst hw; subst hq_
    refine lv_istore_n (lv' := [(2, .int r5), (0, .ref h), (1, .int x1)]) hx hb dX11_allGo_19 rfl hl (by decide) rfl (fun ls hl => ?_)
    refine lv_iconst (v := 0) hx hb dX11_allGo_20 (by decide) ?_
    refine lv_istore_n (lv' := [(3, .int 0), (2, .int r5), (0, .ref h), (1, .int x1)]) hx hb dX11_allGo_21 rfl hl (by decide) rfl (fun ls hl => ?_)
    exact br_allGo_22L fu _ _ _ _ hB p e s0 m below meth c A E H locs ls hP hD hS (lv_sub hl [2, 3, 1, 0] rfl)
  · have hB := if_p hB c2
    refine lv_iconst (v := (-1)) hx hb dX11_allGo_9 (by decide) ?_
    exact q_iret C hr hlocks hK hP hD hS (Nat.le_of_ble_eq_true rfl) (Nat.le_of_ble_eq_true rfl) dX11_allGo_10 (by cases hB; exact ⟨rfl, rfl⟩)
theorem cr_allGo {l : Launch} {dC : Nat → ClassId} {dI : Nat → Nat → Nat} {cB cI cJ cZ cS : ClassId} {h : Nat} {a : Nat → Nat} {r : Int32} {s' : RS} {s : RS} {x1 : Int32} (hB : r_allGo s x1 = some (r, s')) : CI l yX11_allGo wsX11_allGo ({ frames := 7, cells := 0, slots := 0, locals := 161 }) (dC, dI) (tysA cB cI cJ cZ cS) (mwS cB cI cJ cZ h a s) [.ref h, .int x1] (fun x u => x = r ∧ u = (mwS cB cI cJ cZ h a s')) :=
  CI_of (cc := cX11_allGo) (maxL := 5) (ret := (some .int)) (by decide) rfl (Nat.le_of_ble_eq_true rfl) (br_allGo _ _ hB)
theorem LX11_darers_215 : Cond.fieldLink RX11 215 "GuessFerryModel" "live" "I" ∈ wsX11_darers := by decide +kernel
theorem LX11_darers_49 : Cond.fieldLink RX11 49 "GuessFerryModel" "parties" "[I" ∈ wsX11_darers := by decide +kernel
theorem inX11_darers_X11 : ∀ w ∈ u_ws RX11 TX11 58, w ∈ wsX11_darers := by decide +kernel
set_option maxHeartbeats 4000000 in
set_option maxRecDepth 100000 in
theorem br_darers_43 {l : Launch} {dC : Nat → ClassId} {dI : Nat → Nat → Nat} {cB cI cJ cZ cS : ClassId} {h : Nat} {a : Nat → Nat} {as : List Value} {r : Int32} {s' : RS} {k8 : RS → Int32 → Int32 → Option (Int32 × RS)} (hk8 : ∀ (s : RS) (x1 : Int32) (x2 : Int32), k8 s x1 x2 = some (r, s') → BlkI l yX11_darers wsX11_darers ({ frames := 3, cells := 0, slots := 0, locals := 74 }) cX11_darers 3 (some .int) (dC, dI) (tysA cB cI cJ cZ cS) as 8 (mwS cB cI cJ cZ h a s) [(0, .ref h), (1, .int x1), (2, .int x2)] [] (fun x u => x = r ∧ u = (mwS cB cI cJ cZ h a s'))) (s : RS) (x1 : Int32) (x2 : Int32) (hB : r_darers_43 k8 s x1 x2 = some (r, s')) : BlkI l yX11_darers wsX11_darers ({ frames := 3, cells := 0, slots := 0, locals := 74 }) cX11_darers 3 (some .int) (dC, dI) (tysA cB cI cJ cZ cS) as 43 (mwS cB cI cJ cZ h a s) [(0, .ref h), (1, .int x1), (2, .int x2)] [] (fun x u => x = r ∧ u = (mwS cB cI cJ cZ h a s')) := by
  intro p e s0 m below meth c A E H locs ls hP hD hS hl
  obtain ⟨C, hr, hlocks, hA, hK, hN⟩ := id E
  obtain ⟨hx, hb, hml, hown, hts⟩ := id C
  unfold r_darers_43 at hB
  refine lv_iinc (v := (x2 + 1)) (lv' := [(2, .int (x2 + 1)), (0, .ref h), (1, .int x1)]) hx hb dX11_darers_43 hl (k := 2) rfl (rfl) (by decide) rfl (fun ls hl => ?_)
  refine lv_goto (tgt := 8) hx hb dX11_darers_46 (by decide) ?_
  exact hk8 _ _ _ hB p e s0 m below meth c A E H locs ls hP hD hS (lv_sub hl [1, 2, 0] rfl)
set_option maxHeartbeats 4000000 in
set_option maxRecDepth 100000 in
theorem br_darers_8 {l : Launch} {dC : Nat → ClassId} {dI : Nat → Nat → Nat} {cB cI cJ cZ cS : ClassId} {h : Nat} {a : Nat → Nat} {as : List Value} {r : Int32} {s' : RS} {k8 : RS → Int32 → Int32 → Option (Int32 × RS)} (hk8 : ∀ (s : RS) (x1 : Int32) (x2 : Int32), k8 s x1 x2 = some (r, s') → BlkI l yX11_darers wsX11_darers ({ frames := 3, cells := 0, slots := 0, locals := 74 }) cX11_darers 3 (some .int) (dC, dI) (tysA cB cI cJ cZ cS) as 8 (mwS cB cI cJ cZ h a s) [(0, .ref h), (1, .int x1), (2, .int x2)] [] (fun x u => x = r ∧ u = (mwS cB cI cJ cZ h a s'))) (s : RS) (x1 : Int32) (x2 : Int32) (hB : r_darers_8 k8 s x1 x2 = some (r, s')) : BlkI l yX11_darers wsX11_darers ({ frames := 3, cells := 0, slots := 0, locals := 74 }) cX11_darers 3 (some .int) (dC, dI) (tysA cB cI cJ cZ cS) as 8 (mwS cB cI cJ cZ h a s) [(0, .ref h), (1, .int x1), (2, .int x2)] [] (fun x u => x = r ∧ u = (mwS cB cI cJ cZ h a s')) := by
  intro p e s0 m below meth c A E H locs ls hP hD hS hl
  obtain ⟨C, hr, hlocks, hA, hK, hN⟩ := id E
  obtain ⟨hx, hb, hml, hown, hts⟩ := id C
  unfold r_darers_8 at hB
  refine lv_iload_n hx hb dX11_darers_8 rfl (lv_at hl 2 rfl) ?_
  refine lv_aload_n hx hb dX11_darers_9 rfl (lv_at hl 0 rfl) ?_
  refine q_get (v := .ref (a 23)) C inX11_darers_X11 hK hP 0 rfl rfl 23 (by decide) rfl LX11_darers_49 rfl dX11_darers_10 ?_
  refine lv_aload_n hx hb dX11_darers_13 rfl (lv_at hl 0 rfl) ?_
  refine q_get (v := .int (s.v 18)) C inX11_darers_X11 hK hP 0 rfl rfl 18 (by decide) rfl LX11_darers_215 rfl dX11_darers_14 ?_
  obtain ⟨g1, hB⟩ := guard_inv hB
  refine q_iald (x := (s.f 23 (Int32.toNatClampNeg (s.v 18)))) C hK hP 11 1 rfl rfl (vpb_in g1) dX11_darers_17 rfl ?_
  refine lv_icmp_ge (tgt := 49) hx hb dX11_darers_18 (by decide) (fun c2 => ?_) (fun c2 => ?_)
  · have hB := if_p hB c2
    refine lv_iload_n hx hb dX11_darers_49 rfl (lv_at hl 1 rfl) ?_
    exact q_iret C hr hlocks hK hP hD hS (Nat.le_of_ble_eq_true rfl) (Nat.le_of_ble_eq_true rfl) dX11_darers_50 (by cases hB; exact ⟨rfl, rfl⟩)
  · have hB := if_n hB c2
    refine lv_aload_n hx hb dX11_darers_21 rfl (lv_at hl 0 rfl) ?_
    refine lv_iload_n hx hb dX11_darers_22 rfl (lv_at hl 2 rfl) ?_
    obtain ⟨q_, s3, hc, hB⟩ := bindI_inv hB
    refine q_goiF (va_runV (As := [.int x2]) (rest := []) C (cr_isHere hc _) (cwV 1 hts gX11_darers_X11_isHere rfl rfl rfl (by decide +kernel) ⟨Nat.le_of_ble_eq_true rfl, Nat.le_of_ble_eq_true rfl⟩) (q_preV hK hP (ci := 11) (q0 := 0) rfl rfl rfl (q_preF hN hK hP hD)) rfl rfl hl.1 rfl (lv_room (Nat.le_of_ble_eq_true rfl)) dX11_darers_23 ⟨Nat.le_of_ble_eq_true rfl, Nat.le_of_ble_eq_true rfl⟩) hD hS hA (fun r4 w1 H locs hw hP hD hS => ?_)
    obtain ⟨hq_, hw⟩ := hw; subst hw; subst hq_
    refine lv_if_eq (tgt := 43) hx hb dX11_darers_26 (by decide) (fun c5 => ?_) (fun c5 => ?_)
    · have hB := if_p hB c5
      exact br_darers_43 (hk8) _ _ _ hB p e s0 m below meth c A E H locs ls hP hD hS (lv_sub hl [0, 1, 2] rfl)
    · have hB := if_n hB c5
      refine lv_aload_n hx hb dX11_darers_29 rfl (lv_at hl 0 rfl) ?_
      refine lv_iload_n hx hb dX11_darers_30 rfl (lv_at hl 2 rfl) ?_
      obtain ⟨q_, s6, hc, hB⟩ := bindI_inv hB
      refine q_goiF (va_runV (As := [.int x2]) (rest := []) C (cr_doesDare hc _) (cwV 1 hts gX11_darers_X11_doesDare rfl rfl rfl (by decide +kernel) ⟨Nat.le_of_ble_eq_true rfl, Nat.le_of_ble_eq_true rfl⟩) (q_preV hK hP (ci := 11) (q0 := 0) rfl rfl rfl (q_preF hN hK hP hD)) rfl rfl hl.1 rfl (lv_room (Nat.le_of_ble_eq_true rfl)) dX11_darers_31 ⟨Nat.le_of_ble_eq_true rfl, Nat.le_of_ble_eq_true rfl⟩) hD hS hA (fun r7 w1 H locs hw hP hD hS => ?_)
      obtain ⟨hq_, hw⟩ := hw; subst hw; subst hq_
      refine lv_if_eq (tgt := 43) hx hb dX11_darers_34 (by decide) (fun c8 => ?_) (fun c8 => ?_)
      · have hB := if_p hB c8
        exact br_darers_43 (hk8) _ _ _ hB p e s0 m below meth c A E H locs ls hP hD hS (lv_sub hl [0, 1, 2] rfl)
      · have hB := if_n hB c8
        refine lv_iload_n hx hb dX11_darers_37 rfl (lv_at hl 1 rfl) ?_
        refine lv_iconst (v := 1) hx hb dX11_darers_38 (by decide) ?_
        refine lv_iload_n hx hb dX11_darers_39 rfl (lv_at hl 2 rfl) ?_
        refine lv_ishl hx hb dX11_darers_40 ?_
        refine lv_ior hx hb dX11_darers_41 ?_
        refine lv_istore_n (lv' := [(1, .int (x1 ||| (1 <<< (x2 &&& 31)))), (0, .ref h), (2, .int x2)]) hx hb dX11_darers_42 rfl hl (by decide) rfl (fun ls hl => ?_)
        exact br_darers_43 (hk8) _ _ _ hB p e s0 m below meth c A E H locs ls hP hD hS (lv_sub hl [1, 0, 2] rfl)
theorem br_darers_8L {l : Launch} {dC : Nat → ClassId} {dI : Nat → Nat → Nat} {cB cI cJ cZ cS : ClassId} {h : Nat} {a : Nat → Nat} {as : List Value} {r : Int32} {s' : RS} : ∀ (n : Nat) (s : RS) (x1 : Int32) (x2 : Int32), r_darers_8L n s x1 x2 = some (r, s') → BlkI l yX11_darers wsX11_darers ({ frames := 3, cells := 0, slots := 0, locals := 74 }) cX11_darers 3 (some .int) (dC, dI) (tysA cB cI cJ cZ cS) as 8 (mwS cB cI cJ cZ h a s) [(0, .ref h), (1, .int x1), (2, .int x2)] [] (fun x u => x = r ∧ u = (mwS cB cI cJ cZ h a s')) := by
  intro n
  induction n with
  | zero => intro s x1 x2 hB; exact none_ne hB
  | succ n ih => intro s x1 x2 hB; exact br_darers_8 ih _ _ _ hB
set_option maxHeartbeats 4000000 in
set_option maxRecDepth 100000 in
theorem br_darers {l : Launch} {dC : Nat → ClassId} {dI : Nat → Nat → Nat} {cB cI cJ cZ cS : ClassId} {h : Nat} {a : Nat → Nat} {as : List Value} {r : Int32} {s' : RS} (s : RS) (hB : r_darers s = some (r, s')) : BlkI l yX11_darers wsX11_darers ({ frames := 3, cells := 0, slots := 0, locals := 74 }) cX11_darers 3 (some .int) (dC, dI) (tysA cB cI cJ cZ cS) as 0 (mwS cB cI cJ cZ h a s) [(0, .ref h)] [] (fun x u => x = r ∧ u = (mwS cB cI cJ cZ h a s')) := by
  intro p e s0 m below meth c A E H locs ls hP hD hS hl
  obtain ⟨C, hr, hlocks, hA, hK, hN⟩ := id E
  obtain ⟨hx, hb, hml, hown, hts⟩ := id C
  unfold r_darers at hB
  refine lv_aload_n hx hb dX11_darers_0 rfl (lv_at hl 0 rfl) ?_
  obtain ⟨s1, hc, hB⟩ := bindP_inv hB
  refine q_govF (va_runV (As := []) (rest := []) C (cr_copies hc _) (cwV 0 hts gX11_darers_X11_copies rfl rfl rfl (by decide +kernel) ⟨Nat.le_of_ble_eq_true rfl, Nat.le_of_ble_eq_true rfl⟩) (q_preV hK hP (ci := 11) (q0 := 0) rfl rfl rfl (q_preF hN hK hP hD)) rfl rfl hl.1 rfl (lv_room (Nat.le_of_ble_eq_true rfl)) dX11_darers_1 ⟨Nat.le_of_ble_eq_true rfl, Nat.le_of_ble_eq_true rfl⟩) hD hS hA (fun w1 H locs hw hP hD hS => ?_)
  subst hw
  refine lv_iconst (v := 0) hx hb dX11_darers_4 (by decide) ?_
  refine lv_istore_n (lv' := [(1, .int 0), (0, .ref h)]) hx hb dX11_darers_5 rfl hl (by decide) rfl (fun ls hl => ?_)
  refine lv_iconst (v := 0) hx hb dX11_darers_6 (by decide) ?_
  refine lv_istore_n (lv' := [(2, .int 0), (1, .int 0), (0, .ref h)]) hx hb dX11_darers_7 rfl hl (by decide) rfl (fun ls hl => ?_)
  exact br_darers_8L fu _ _ _ hB p e s0 m below meth c A E H locs ls hP hD hS (lv_sub hl [2, 1, 0] rfl)
theorem cr_darers {l : Launch} {dC : Nat → ClassId} {dI : Nat → Nat → Nat} {cB cI cJ cZ cS : ClassId} {h : Nat} {a : Nat → Nat} {r : Int32} {s' : RS} {s : RS} (hB : r_darers s = some (r, s')) : CI l yX11_darers wsX11_darers ({ frames := 3, cells := 0, slots := 0, locals := 74 }) (dC, dI) (tysA cB cI cJ cZ cS) (mwS cB cI cJ cZ h a s) [.ref h] (fun x u => x = r ∧ u = (mwS cB cI cJ cZ h a s')) :=
  CI_of (cc := cX11_darers) (maxL := 3) (ret := (some .int)) (by decide) rfl (Nat.le_of_ble_eq_true rfl) (br_darers _ hB)
theorem LX11_open_215 : Cond.fieldLink RX11 215 "GuessFerryModel" "live" "I" ∈ wsX11_open := by decide +kernel
theorem LX11_open_40 : Cond.fieldLink RX11 40 "GuessFerryModel" "waves" "[I" ∈ wsX11_open := by decide +kernel
theorem inX11_open_X11 : ∀ w ∈ u_ws RX11 TX11 58, w ∈ wsX11_open := by decide +kernel
set_option maxHeartbeats 4000000 in
set_option maxRecDepth 100000 in
theorem br_open_39 {l : Launch} {dC : Nat → ClassId} {dI : Nat → Nat → Nat} {cB cI cJ cZ cS : ClassId} {h : Nat} {a : Nat → Nat} {as : List Value} {r : Int32} {s' : RS} {k8 : RS → Int32 → Int32 → Option (Int32 × RS)} (hk8 : ∀ (s : RS) (x1 : Int32) (x2 : Int32), k8 s x1 x2 = some (r, s') → BlkI l yX11_open wsX11_open ({ frames := 2, cells := 0, slots := 0, locals := 45 }) cX11_open 3 (some .int) (dC, dI) (tysA cB cI cJ cZ cS) as 8 (mwS cB cI cJ cZ h a s) [(0, .ref h), (1, .int x1), (2, .int x2)] [] (fun x u => x = r ∧ u = (mwS cB cI cJ cZ h a s'))) (s : RS) (x1 : Int32) (x2 : Int32) (hB : r_open_39 k8 s x1 x2 = some (r, s')) : BlkI l yX11_open wsX11_open ({ frames := 2, cells := 0, slots := 0, locals := 45 }) cX11_open 3 (some .int) (dC, dI) (tysA cB cI cJ cZ cS) as 39 (mwS cB cI cJ cZ h a s) [(0, .ref h), (1, .int x1), (2, .int x2)] [] (fun x u => x = r ∧ u = (mwS cB cI cJ cZ h a s')) := by
  intro p e s0 m below meth c A E H locs ls hP hD hS hl
  obtain ⟨C, hr, hlocks, hA, hK, hN⟩ := id E
  obtain ⟨hx, hb, hml, hown, hts⟩ := id C
  unfold r_open_39 at hB
  refine lv_iinc (v := (x2 + 1)) (lv' := [(2, .int (x2 + 1)), (0, .ref h), (1, .int x1)]) hx hb dX11_open_39 hl (k := 2) rfl (rfl) (by decide) rfl (fun ls hl => ?_)
  refine lv_goto (tgt := 8) hx hb dX11_open_42 (by decide) ?_
  exact hk8 _ _ _ hB p e s0 m below meth c A E H locs ls hP hD hS (lv_sub hl [1, 2, 0] rfl)
set_option maxHeartbeats 4000000 in
set_option maxRecDepth 100000 in
theorem br_open_8 {l : Launch} {dC : Nat → ClassId} {dI : Nat → Nat → Nat} {cB cI cJ cZ cS : ClassId} {h : Nat} {a : Nat → Nat} {as : List Value} {r : Int32} {s' : RS} {k8 : RS → Int32 → Int32 → Option (Int32 × RS)} (hk8 : ∀ (s : RS) (x1 : Int32) (x2 : Int32), k8 s x1 x2 = some (r, s') → BlkI l yX11_open wsX11_open ({ frames := 2, cells := 0, slots := 0, locals := 45 }) cX11_open 3 (some .int) (dC, dI) (tysA cB cI cJ cZ cS) as 8 (mwS cB cI cJ cZ h a s) [(0, .ref h), (1, .int x1), (2, .int x2)] [] (fun x u => x = r ∧ u = (mwS cB cI cJ cZ h a s'))) (s : RS) (x1 : Int32) (x2 : Int32) (hB : r_open_8 k8 s x1 x2 = some (r, s')) : BlkI l yX11_open wsX11_open ({ frames := 2, cells := 0, slots := 0, locals := 45 }) cX11_open 3 (some .int) (dC, dI) (tysA cB cI cJ cZ cS) as 8 (mwS cB cI cJ cZ h a s) [(0, .ref h), (1, .int x1), (2, .int x2)] [] (fun x u => x = r ∧ u = (mwS cB cI cJ cZ h a s')) := by
  intro p e s0 m below meth c A E H locs ls hP hD hS hl
  obtain ⟨C, hr, hlocks, hA, hK, hN⟩ := id E
  obtain ⟨hx, hb, hml, hown, hts⟩ := id C
  unfold r_open_8 at hB
  refine lv_iload_n hx hb dX11_open_8 rfl (lv_at hl 2 rfl) ?_
  refine lv_aload_n hx hb dX11_open_9 rfl (lv_at hl 0 rfl) ?_
  refine q_get (v := .ref (a 20)) C inX11_open_X11 hK hP 0 rfl rfl 20 (by decide) rfl LX11_open_40 rfl dX11_open_10 ?_
  refine lv_aload_n hx hb dX11_open_13 rfl (lv_at hl 0 rfl) ?_
  refine q_get (v := .int (s.v 18)) C inX11_open_X11 hK hP 0 rfl rfl 18 (by decide) rfl LX11_open_215 rfl dX11_open_14 ?_
  obtain ⟨g1, hB⟩ := guard_inv hB
  refine q_iald (x := (s.f 20 (Int32.toNatClampNeg (s.v 18)))) C hK hP 8 1 rfl rfl (vpb_in g1) dX11_open_17 rfl ?_
  refine lv_icmp_ge (tgt := 45) hx hb dX11_open_18 (by decide) (fun c2 => ?_) (fun c2 => ?_)
  · have hB := if_p hB c2
    refine lv_iload_n hx hb dX11_open_45 rfl (lv_at hl 1 rfl) ?_
    exact q_iret C hr hlocks hK hP hD hS (Nat.le_of_ble_eq_true rfl) (Nat.le_of_ble_eq_true rfl) dX11_open_46 (by cases hB; exact ⟨rfl, rfl⟩)
  · have hB := if_n hB c2
    refine lv_aload_n hx hb dX11_open_21 rfl (lv_at hl 0 rfl) ?_
    refine lv_iload_n hx hb dX11_open_22 rfl (lv_at hl 2 rfl) ?_
    obtain ⟨q_, s3, hc, hB⟩ := bindI_inv hB
    refine q_goiF (va_runV (As := [.int x2]) (rest := []) C (cr_mayAt hc _) (cwV 1 hts gX11_open_X11_mayAt rfl rfl rfl (by decide +kernel) ⟨Nat.le_of_ble_eq_true rfl, Nat.le_of_ble_eq_true rfl⟩) (q_preV hK hP (ci := 11) (q0 := 0) rfl rfl rfl (q_preF hN hK hP hD)) rfl rfl hl.1 rfl (lv_room (Nat.le_of_ble_eq_true rfl)) dX11_open_23 ⟨Nat.le_of_ble_eq_true rfl, Nat.le_of_ble_eq_true rfl⟩) hD hS hA (fun r4 w1 H locs hw hP hD hS => ?_)
    obtain ⟨hq_, hw⟩ := hw; subst hw; subst hq_
    obtain ⟨q_, hc, hB⟩ := bindP_inv hB
    refine q_goi0 (va_runS (As := [.int r4]) (rest := []) C (cr_bits hc _) (va_cwS 1 hts gX11_open_X11_bits rfl rfl rfl (by decide +kernel) ⟨Nat.le_of_ble_eq_true rfl, Nat.le_of_ble_eq_true rfl⟩) (q_pre0 hN hK) rfl rfl hl.1 rfl (lv_room (Nat.le_of_ble_eq_true rfl)) dX11_open_26 ⟨Nat.le_of_ble_eq_true rfl, Nat.le_of_ble_eq_true rfl⟩) hP hD hS hA (fun r5 w1 H locs hw hP hS => ?_)
    subst hw
    refine lv_iconst (v := 1) hx hb dX11_open_29 (by decide) ?_
    refine lv_icmp_le (tgt := 39) hx hb dX11_open_30 (by decide) (fun c6 => ?_) (fun c6 => ?_)
    · have hB := if_p hB c6
      exact br_open_39 (hk8) _ _ _ hB p e s0 m below meth c A E H locs ls hP hD hS (lv_sub hl [0, 1, 2] rfl)
    · have hB := if_n hB c6
      refine lv_iload_n hx hb dX11_open_33 rfl (lv_at hl 1 rfl) ?_
      refine lv_iconst (v := 1) hx hb dX11_open_34 (by decide) ?_
      refine lv_iload_n hx hb dX11_open_35 rfl (lv_at hl 2 rfl) ?_
      refine lv_ishl hx hb dX11_open_36 ?_
      refine lv_ior hx hb dX11_open_37 ?_
      refine lv_istore_n (lv' := [(1, .int (x1 ||| (1 <<< (x2 &&& 31)))), (0, .ref h), (2, .int x2)]) hx hb dX11_open_38 rfl hl (by decide) rfl (fun ls hl => ?_)
      exact br_open_39 (hk8) _ _ _ hB p e s0 m below meth c A E H locs ls hP hD hS (lv_sub hl [1, 0, 2] rfl)
theorem br_open_8L {l : Launch} {dC : Nat → ClassId} {dI : Nat → Nat → Nat} {cB cI cJ cZ cS : ClassId} {h : Nat} {a : Nat → Nat} {as : List Value} {r : Int32} {s' : RS} : ∀ (n : Nat) (s : RS) (x1 : Int32) (x2 : Int32), r_open_8L n s x1 x2 = some (r, s') → BlkI l yX11_open wsX11_open ({ frames := 2, cells := 0, slots := 0, locals := 45 }) cX11_open 3 (some .int) (dC, dI) (tysA cB cI cJ cZ cS) as 8 (mwS cB cI cJ cZ h a s) [(0, .ref h), (1, .int x1), (2, .int x2)] [] (fun x u => x = r ∧ u = (mwS cB cI cJ cZ h a s')) := by
  intro n
  induction n with
  | zero => intro s x1 x2 hB; exact none_ne hB
  | succ n ih => intro s x1 x2 hB; exact br_open_8 ih _ _ _ hB
set_option maxHeartbeats 4000000 in
set_option maxRecDepth 100000 in
theorem br_open {l : Launch} {dC : Nat → ClassId} {dI : Nat → Nat → Nat} {cB cI cJ cZ cS : ClassId} {h : Nat} {a : Nat → Nat} {as : List Value} {r : Int32} {s' : RS} (s : RS) (hB : r_open s = some (r, s')) : BlkI l yX11_open wsX11_open ({ frames := 2, cells := 0, slots := 0, locals := 45 }) cX11_open 3 (some .int) (dC, dI) (tysA cB cI cJ cZ cS) as 0 (mwS cB cI cJ cZ h a s) [(0, .ref h)] [] (fun x u => x = r ∧ u = (mwS cB cI cJ cZ h a s')) := by
  intro p e s0 m below meth c A E H locs ls hP hD hS hl
  obtain ⟨C, hr, hlocks, hA, hK, hN⟩ := id E
  obtain ⟨hx, hb, hml, hown, hts⟩ := id C
  unfold r_open at hB
  refine lv_aload_n hx hb dX11_open_0 rfl (lv_at hl 0 rfl) ?_
  obtain ⟨s1, hc, hB⟩ := bindP_inv hB
  refine q_govF (va_runV (As := []) (rest := []) C (cr_copies hc _) (cwV 0 hts gX11_open_X11_copies rfl rfl rfl (by decide +kernel) ⟨Nat.le_of_ble_eq_true rfl, Nat.le_of_ble_eq_true rfl⟩) (q_preV hK hP (ci := 11) (q0 := 0) rfl rfl rfl (q_preF hN hK hP hD)) rfl rfl hl.1 rfl (lv_room (Nat.le_of_ble_eq_true rfl)) dX11_open_1 ⟨Nat.le_of_ble_eq_true rfl, Nat.le_of_ble_eq_true rfl⟩) hD hS hA (fun w1 H locs hw hP hD hS => ?_)
  subst hw
  refine lv_iconst (v := 0) hx hb dX11_open_4 (by decide) ?_
  refine lv_istore_n (lv' := [(1, .int 0), (0, .ref h)]) hx hb dX11_open_5 rfl hl (by decide) rfl (fun ls hl => ?_)
  refine lv_iconst (v := 0) hx hb dX11_open_6 (by decide) ?_
  refine lv_istore_n (lv' := [(2, .int 0), (1, .int 0), (0, .ref h)]) hx hb dX11_open_7 rfl hl (by decide) rfl (fun ls hl => ?_)
  exact br_open_8L fu _ _ _ hB p e s0 m below meth c A E H locs ls hP hD hS (lv_sub hl [2, 1, 0] rfl)
theorem cr_open {l : Launch} {dC : Nat → ClassId} {dI : Nat → Nat → Nat} {cB cI cJ cZ cS : ClassId} {h : Nat} {a : Nat → Nat} {r : Int32} {s' : RS} {s : RS} (hB : r_open s = some (r, s')) : CI l yX11_open wsX11_open ({ frames := 2, cells := 0, slots := 0, locals := 45 }) (dC, dI) (tysA cB cI cJ cZ cS) (mwS cB cI cJ cZ h a s) [.ref h] (fun x u => x = r ∧ u = (mwS cB cI cJ cZ h a s')) :=
  CI_of (cc := cX11_open) (maxL := 3) (ret := (some .int)) (by decide) rfl (Nat.le_of_ble_eq_true rfl) (br_open _ hB)
