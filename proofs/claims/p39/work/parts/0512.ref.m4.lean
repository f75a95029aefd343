section
theorem ggX11_chosen_X11_copies : GoodIn wsX11_chosen wsX11_copies := gi_sub (fun w h => List.mem_cons_of_mem _ (List.mem_append_left _ (List.mem_append_right _ (List.mem_append_left _ h)))) gd_wsX11_copies
set_option maxRecDepth 20000 in
theorem gX11_chosen_X11_copies : GoodIn wsX11_chosen (wsV RX11 352 RX11 yX11_copies wsX11_copies) := goodIn_app (goodIn_r _ [3, 4, 5, 6] (by decide +kernel) (by decide +kernel)) ggX11_chosen_X11_copies
theorem ggX11_chosen_X11_isHere : GoodIn wsX11_chosen wsX11_isHere := gi_sub (fun w h => List.mem_cons_of_mem _ (List.mem_append_left _ (List.mem_append_right _ (List.mem_append_right _ (List.mem_append_left _ h))))) gd_wsX11_isHere
set_option maxRecDepth 20000 in
theorem gX11_chosen_X11_isHere : GoodIn wsX11_chosen (wsV RX11 364 RX11 yX11_isHere wsX11_isHere) := goodIn_app (goodIn_r _ [7, 8, 9, 6] (by decide +kernel) (by decide +kernel)) ggX11_chosen_X11_isHere
theorem ggX11_chosen_X11_bestFor : GoodIn wsX11_chosen wsX11_bestFor := gi_sub (fun w h => List.mem_cons_of_mem _ (List.mem_append_left _ (List.mem_append_right _ (List.mem_append_right _ (List.mem_append_right _ (List.mem_append_left _ h)))))) gd_wsX11_bestFor
set_option maxRecDepth 20000 in
theorem gX11_chosen_X11_bestFor : GoodIn wsX11_chosen (wsV RX11 398 RX11 yX11_bestFor wsX11_bestFor) := goodIn_app (goodIn_r _ [10, 11, 12, 6] (by decide +kernel) (by decide +kernel)) ggX11_chosen_X11_bestFor
theorem ggX11_chosen_X11_chanceOf : GoodIn wsX11_chosen wsX11_chanceOf := gi_sub (fun w h => List.mem_cons_of_mem _ (List.mem_append_left _ (List.mem_append_right _ (List.mem_append_right _ (List.mem_append_right _ (List.mem_append_right _ h)))))) gd_wsX11_chanceOf
set_option maxRecDepth 20000 in
theorem gX11_chosen_X11_chanceOf : GoodIn wsX11_chosen (wsV RX11 392 RX11 yX11_chanceOf wsX11_chanceOf) := goodIn_app (goodIn_r _ [13, 14, 15, 6] (by decide +kernel) (by decide +kernel)) ggX11_chosen_X11_chanceOf
theorem dX11_chosen_0 : decode cX11_chosen 0 = .ok (.aload_n 0, 1) := dc1_42 (by decide +kernel)
theorem dX11_chosen_1 : decode cX11_chosen 1 = .ok (.invokevirtual 352, 3) := dcw_182 (by decide +kernel)
theorem dX11_chosen_4 : decode cX11_chosen 4 = .ok (.bipush (-2), 2) := dcb_16 (n := 254) (by decide +kernel)
theorem dX11_chosen_6 : decode cX11_chosen 6 = .ok (.istore_n 1, 1) := dc1_60 (by decide +kernel)
theorem dX11_chosen_7 : decode cX11_chosen 7 = .ok (.iconst 0, 1) := dc1_3 (by decide +kernel)
theorem dX11_chosen_8 : decode cX11_chosen 8 = .ok (.istore_n 2, 1) := dc1_61 (by decide +kernel)
theorem dX11_chosen_9 : decode cX11_chosen 9 = .ok (.iconst 0, 1) := dc1_3 (by decide +kernel)
theorem dX11_chosen_10 : decode cX11_chosen 10 = .ok (.istore_n 3, 1) := dc1_62 (by decide +kernel)
theorem dX11_chosen_11 : decode cX11_chosen 11 = .ok (.iload_n 3, 1) := dc1_29 (by decide +kernel)
theorem dX11_chosen_12 : decode cX11_chosen 12 = .ok (.aload_n 0, 1) := dc1_42 (by decide +kernel)
theorem dX11_chosen_13 : decode cX11_chosen 13 = .ok (.getfield 49, 3) := dcw_180 (by decide +kernel)
theorem dX11_chosen_16 : decode cX11_chosen 16 = .ok (.aload_n 0, 1) := dc1_42 (by decide +kernel)
theorem dX11_chosen_17 : decode cX11_chosen 17 = .ok (.getfield 215, 3) := dcw_180 (by decide +kernel)
theorem dX11_chosen_20 : decode cX11_chosen 20 = .ok (.iaload, 1) := dc1_46 (by decide +kernel)
theorem dX11_chosen_21 : decode cX11_chosen 21 = .ok (.if_icmp .ge 60, 3) := dcs_162 (n := 60) (by decide +kernel)
theorem dX11_chosen_24 : decode cX11_chosen 24 = .ok (.aload_n 0, 1) := dc1_42 (by decide +kernel)
theorem dX11_chosen_25 : decode cX11_chosen 25 = .ok (.iload_n 3, 1) := dc1_29 (by decide +kernel)
theorem dX11_chosen_26 : decode cX11_chosen 26 = .ok (.invokevirtual 364, 3) := dcw_182 (by decide +kernel)
theorem dX11_chosen_29 : decode cX11_chosen 29 = .ok (.ifCond .eq 11, 3) := dcs_153 (n := 11) (by decide +kernel)
theorem dX11_chosen_32 : decode cX11_chosen 32 = .ok (.aload_n 0, 1) := dc1_42 (by decide +kernel)
theorem dX11_chosen_33 : decode cX11_chosen 33 = .ok (.iload_n 3, 1) := dc1_29 (by decide +kernel)
theorem dX11_chosen_34 : decode cX11_chosen 34 = .ok (.invokevirtual 398, 3) := dcw_182 (by decide +kernel)
theorem dX11_chosen_37 : decode cX11_chosen 37 = .ok (.goto 5, 3) := dcs_167 (n := 5) (by decide +kernel)
theorem dX11_chosen_40 : decode cX11_chosen 40 = .ok (.bipush (-2), 2) := dcb_16 (n := 254) (by decide +kernel)
theorem dX11_chosen_42 : decode cX11_chosen 42 = .ok (.istore 4, 2) := dcu_54 (by decide +kernel)
theorem dX11_chosen_44 : decode cX11_chosen 44 = .ok (.iload 4, 2) := dcu_21 (by decide +kernel)
theorem dX11_chosen_46 : decode cX11_chosen 46 = .ok (.ifCond .lt 29, 3) := dcs_155 (n := 29) (by decide +kernel)
theorem dX11_chosen_49 : decode cX11_chosen 49 = .ok (.iload_n 1, 1) := dc1_27 (by decide +kernel)
theorem dX11_chosen_50 : decode cX11_chosen 50 = .ok (.ifCond .lt 16, 3) := dcs_155 (n := 16) (by decide +kernel)
theorem dX11_chosen_53 : decode cX11_chosen 53 = .ok (.aload_n 0, 1) := dc1_42 (by decide +kernel)
theorem dX11_chosen_54 : decode cX11_chosen 54 = .ok (.iload 4, 2) := dcu_21 (by decide +kernel)
theorem dX11_chosen_56 : decode cX11_chosen 56 = .ok (.invokevirtual 392, 3) := dcw_182 (by decide +kernel)
theorem dX11_chosen_59 : decode cX11_chosen 59 = .ok (.iload_n 2, 1) := dc1_28 (by decide +kernel)
theorem dX11_chosen_60 : decode cX11_chosen 60 = .ok (.if_icmp .gt 6, 3) := dcs_163 (n := 6) (by decide +kernel)
theorem dX11_chosen_63 : decode cX11_chosen 63 = .ok (.goto 12, 3) := dcs_167 (n := 12) (by decide +kernel)
theorem dX11_chosen_66 : decode cX11_chosen 66 = .ok (.iload_n 3, 1) := dc1_29 (by decide +kernel)
theorem dX11_chosen_67 : decode cX11_chosen 67 = .ok (.istore_n 1, 1) := dc1_60 (by decide +kernel)
theorem dX11_chosen_68 : decode cX11_chosen 68 = .ok (.aload_n 0, 1) := dc1_42 (by decide +kernel)
theorem dX11_chosen_69 : decode cX11_chosen 69 = .ok (.iload 4, 2) := dcu_21 (by decide +kernel)
theorem dX11_chosen_71 : decode cX11_chosen 71 = .ok (.invokevirtual 392, 3) := dcw_182 (by decide +kernel)
theorem dX11_chosen_74 : decode cX11_chosen 74 = .ok (.istore_n 2, 1) := dc1_61 (by decide +kernel)
theorem dX11_chosen_75 : decode cX11_chosen 75 = .ok (.iinc 3 1, 3) := dc_iinc (m := 1) (by decide +kernel)
theorem dX11_chosen_78 : decode cX11_chosen 78 = .ok (.goto (-67), 3) := dcs_167 (n := 65469) (by decide +kernel)
theorem dX11_chosen_81 : decode cX11_chosen 81 = .ok (.iload_n 1, 1) := dc1_27 (by decide +kernel)
theorem dX11_chosen_82 : decode cX11_chosen 82 = .ok (.ireturn, 1) := dc1_172 (by decide +kernel)
theorem dX11_manyIn_0 : decode cX11_manyIn 0 = .ok (.iconst 0, 1) := dc1_3 (by decide +kernel)
theorem dX11_manyIn_1 : decode cX11_manyIn 1 = .ok (.istore_n 2, 1) := dc1_61 (by decide +kernel)
theorem dX11_manyIn_2 : decode cX11_manyIn 2 = .ok (.iconst 0, 1) := dc1_3 (by decide +kernel)
theorem dX11_manyIn_3 : decode cX11_manyIn 3 = .ok (.istore_n 3, 1) := dc1_62 (by decide +kernel)
theorem dX11_manyIn_4 : decode cX11_manyIn 4 = .ok (.iload_n 3, 1) := dc1_29 (by decide +kernel)
theorem dX11_manyIn_5 : decode cX11_manyIn 5 = .ok (.aload_n 0, 1) := dc1_42 (by decide +kernel)
theorem dX11_manyIn_6 : decode cX11_manyIn 6 = .ok (.getfield 49, 3) := dcw_180 (by decide +kernel)
theorem dX11_manyIn_9 : decode cX11_manyIn 9 = .ok (.aload_n 0, 1) := dc1_42 (by decide +kernel)
theorem dX11_manyIn_10 : decode cX11_manyIn 10 = .ok (.getfield 215, 3) := dcw_180 (by decide +kernel)
theorem dX11_manyIn_13 : decode cX11_manyIn 13 = .ok (.iaload, 1) := dc1_46 (by decide +kernel)
theorem dX11_manyIn_14 : decode cX11_manyIn 14 = .ok (.if_icmp .ge 25, 3) := dcs_162 (n := 25) (by decide +kernel)
theorem dX11_manyIn_17 : decode cX11_manyIn 17 = .ok (.aload_n 0, 1) := dc1_42 (by decide +kernel)
theorem dX11_manyIn_18 : decode cX11_manyIn 18 = .ok (.getfield 101, 3) := dcw_180 (by decide +kernel)
theorem dX11_manyIn_21 : decode cX11_manyIn 21 = .ok (.bipush 15, 2) := dcb_16 (n := 15) (by decide +kernel)
theorem dX11_manyIn_23 : decode cX11_manyIn 23 = .ok (.iload_n 3, 1) := dc1_29 (by decide +kernel)
theorem dX11_manyIn_24 : decode cX11_manyIn 24 = .ok (.iadd, 1) := dc1_96 (by decide +kernel)
theorem dX11_manyIn_25 : decode cX11_manyIn 25 = .ok (.iaload, 1) := dc1_46 (by decide +kernel)
theorem dX11_manyIn_26 : decode cX11_manyIn 26 = .ok (.iload_n 1, 1) := dc1_27 (by decide +kernel)
theorem dX11_manyIn_27 : decode cX11_manyIn 27 = .ok (.if_icmp .ne 6, 3) := dcs_160 (n := 6) (by decide +kernel)
theorem dX11_manyIn_30 : decode cX11_manyIn 30 = .ok (.iinc 2 1, 3) := dc_iinc (m := 1) (by decide +kernel)
theorem dX11_manyIn_33 : decode cX11_manyIn 33 = .ok (.iinc 3 1, 3) := dc_iinc (m := 1) (by decide +kernel)
theorem dX11_manyIn_36 : decode cX11_manyIn 36 = .ok (.goto (-32), 3) := dcs_167 (n := 65504) (by decide +kernel)
theorem dX11_manyIn_39 : decode cX11_manyIn 39 = .ok (.iload_n 2, 1) := dc1_28 (by decide +kernel)
theorem dX11_manyIn_40 : decode cX11_manyIn 40 = .ok (.ireturn, 1) := dc1_172 (by decide +kernel)
theorem ggX11_allGo_X11_in : GoodIn wsX11_allGo wsX11_in := gi_sub (fun w h => List.mem_cons_of_mem _ (List.mem_append_left _ (List.mem_append_right _ (List.mem_append_left _ h)))) gd_wsX11_in
set_option maxRecDepth 20000 in
theorem gX11_allGo_X11_in : GoodIn wsX11_allGo (va_wsS RX11 281 yX11_in wsX11_in) := goodIn_app (goodIn_of _ (by decide +kernel)) ggX11_allGo_X11_in
theorem ggX11_allGo_X11_copies : GoodIn wsX11_allGo wsX11_copies := gi_sub (fun w h => List.mem_cons_of_mem _ (List.mem_append_left _ (List.mem_append_right _ (List.mem_append_right _ (List.mem_append_left _ h))))) gd_wsX11_copies
set_option maxRecDepth 20000 in
theorem gX11_allGo_X11_copies : GoodIn wsX11_allGo (wsV RX11 352 RX11 yX11_copies wsX11_copies) := goodIn_app (goodIn_r _ [9, 10, 11, 8] (by decide +kernel) (by decide +kernel)) ggX11_allGo_X11_copies
theorem ggX11_allGo_X11_thereNumber : GoodIn wsX11_allGo wsX11_thereNumber := gi_sub (fun w h => List.mem_cons_of_mem _ (List.mem_append_left _ (List.mem_append_right _ (List.mem_append_right _ (List.mem_append_right _ (List.mem_append_left _ h)))))) gd_wsX11_thereNumber
set_option maxRecDepth 20000 in
theorem gX11_allGo_X11_thereNumber : GoodIn wsX11_allGo (wsV RX11 370 RX11 yX11_thereNumber wsX11_thereNumber) := goodIn_app (goodIn_r _ [12, 13, 14, 8] (by decide +kernel) (by decide +kernel)) ggX11_allGo_X11_thereNumber
theorem ggX11_allGo_X11_isHere : GoodIn wsX11_allGo wsX11_isHere := gi_sub (fun w h => List.mem_cons_of_mem _ (List.mem_append_left _ (List.mem_append_right _ (List.mem_append_right _ (List.mem_append_right _ (List.mem_append_right _ (List.mem_append_left _ h))))))) gd_wsX11_isHere
set_option maxRecDepth 20000 in
theorem gX11_allGo_X11_isHere : GoodIn wsX11_allGo (wsV RX11 364 RX11 yX11_isHere wsX11_isHere) := goodIn_app (goodIn_r _ [15, 16, 17, 8] (by decide +kernel) (by decide +kernel)) ggX11_allGo_X11_isHere
theorem ggX11_allGo_X11_doesDare : GoodIn wsX11_allGo wsX11_doesDare := gi_sub (fun w h => List.mem_cons_of_mem _ (List.mem_append_left _ (List.mem_append_right _ (List.mem_append_right _ (List.mem_append_right _ (List.mem_append_right _ (List.mem_append_right _ (List.mem_append_left _ h)))))))) gd_wsX11_doesDare
set_option maxRecDepth 20000 in
theorem gX11_allGo_X11_doesDare : GoodIn wsX11_allGo (wsV RX11 361 RX11 yX11_doesDare wsX11_doesDare) := goodIn_app (goodIn_r _ [18, 19, 20, 8] (by decide +kernel) (by decide +kernel)) ggX11_allGo_X11_doesDare
theorem ggX11_allGo_X11_bestFor : GoodIn wsX11_allGo wsX11_bestFor := gi_sub (fun w h => List.mem_cons_of_mem _ (List.mem_append_left _ (List.mem_append_right _ (List.mem_append_right _ (List.mem_append_right _ (List.mem_append_right _ (List.mem_append_right _ (List.mem_append_right _ (List.mem_append_left _ h))))))))) gd_wsX11_bestFor
set_option maxRecDepth 20000 in
theorem gX11_allGo_X11_bestFor : GoodIn wsX11_allGo (wsV RX11 398 RX11 yX11_bestFor wsX11_bestFor) := goodIn_app (goodIn_r _ [21, 22, 23, 8] (by decide +kernel) (by decide +kernel)) ggX11_allGo_X11_bestFor
theorem ggX11_allGo_X11_goesBy : GoodIn wsX11_allGo wsX11_goesBy := gi_sub (fun w h => List.mem_cons_of_mem _ (List.mem_append_left _ (List.mem_append_right _ (List.mem_append_right _ (List.mem_append_right _ (List.mem_append_right _ (List.mem_append_right _ (List.mem_append_right _ (List.mem_append_right _ (List.mem_append_left _ h)))))))))) gd_wsX11_goesBy
set_option maxRecDepth 20000 in
theorem gX11_allGo_X11_goesBy : GoodIn wsX11_allGo (wsV RX11 373 RX11 yX11_goesBy wsX11_goesBy) := goodIn_app (goodIn_r _ [24, 25, 26, 8] (by decide +kernel) (by decide +kernel)) ggX11_allGo_X11_goesBy
theorem ggX11_allGo_X11_manyIn : GoodIn wsX11_allGo wsX11_manyIn := gi_sub (fun w h => List.mem_cons_of_mem _ (List.mem_append_left _ (List.mem_append_right _ (List.mem_append_right _ (List.mem_append_right _ (List.mem_append_right _ (List.mem_append_right _ (List.mem_append_right _ (List.mem_append_right _ (List.mem_append_right _ h)))))))))) gd_wsX11_manyIn
set_option maxRecDepth 20000 in
theorem gX11_allGo_X11_manyIn : GoodIn wsX11_allGo (wsV RX11 416 RX11 yX11_manyIn wsX11_manyIn) := goodIn_app (goodIn_r _ [27, 28, 29, 8] (by decide +kernel) (by decide +kernel)) ggX11_allGo_X11_manyIn
theorem dX11_allGo_0 : decode cX11_allGo 0 = .ok (.iload_n 1, 1) := dc1_27 (by decide +kernel)
theorem dX11_allGo_1 : decode cX11_allGo 1 = .ok (.iconst 0, 1) := dc1_3 (by decide +kernel)
theorem dX11_allGo_2 : decode cX11_allGo 2 = .ok (.iconst 2, 1) := dc1_5 (by decide +kernel)
theorem dX11_allGo_3 : decode cX11_allGo 3 = .ok (.invokestatic 281, 3) := dcw_184 (by decide +kernel)
theorem dX11_allGo_6 : decode cX11_allGo 6 = .ok (.ifCond .ne 5, 3) := dcs_154 (n := 5) (by decide +kernel)
theorem dX11_allGo_9 : decode cX11_allGo 9 = .ok (.iconst (-1), 1) := dc1_2 (by decide +kernel)
theorem dX11_allGo_10 : decode cX11_allGo 10 = .ok (.ireturn, 1) := dc1_172 (by decide +kernel)
theorem dX11_allGo_11 : decode cX11_allGo 11 = .ok (.aload_n 0, 1) := dc1_42 (by decide +kernel)
theorem dX11_allGo_12 : decode cX11_allGo 12 = .ok (.invokevirtual 352, 3) := dcw_182 (by decide +kernel)
theorem dX11_allGo_15 : decode cX11_allGo 15 = .ok (.aload_n 0, 1) := dc1_42 (by decide +kernel)
theorem dX11_allGo_16 : decode cX11_allGo 16 = .ok (.invokevirtual 370, 3) := dcw_182 (by decide +kernel)
theorem dX11_allGo_19 : decode cX11_allGo 19 = .ok (.istore_n 2, 1) := dc1_61 (by decide +kernel)
theorem dX11_allGo_20 : decode cX11_allGo 20 = .ok (.iconst 0, 1) := dc1_3 (by decide +kernel)
theorem dX11_allGo_21 : decode cX11_allGo 21 = .ok (.istore_n 3, 1) := dc1_62 (by decide +kernel)
theorem dX11_allGo_22 : decode cX11_allGo 22 = .ok (.iload_n 3, 1) := dc1_29 (by decide +kernel)
theorem dX11_allGo_23 : decode cX11_allGo 23 = .ok (.aload_n 0, 1) := dc1_42 (by decide +kernel)
theorem dX11_allGo_24 : decode cX11_allGo 24 = .ok (.getfield 49, 3) := dcw_180 (by decide +kernel)
theorem dX11_allGo_27 : decode cX11_allGo 27 = .ok (.aload_n 0, 1) := dc1_42 (by decide +kernel)
theorem dX11_allGo_28 : decode cX11_allGo 28 = .ok (.getfield 215, 3) := dcw_180 (by decide +kernel)
theorem dX11_allGo_31 : decode cX11_allGo 31 = .ok (.iaload, 1) := dc1_46 (by decide +kernel)
theorem dX11_allGo_32 : decode cX11_allGo 32 = .ok (.if_icmp .ge 63, 3) := dcs_162 (n := 63) (by decide +kernel)
theorem dX11_allGo_35 : decode cX11_allGo 35 = .ok (.aload_n 0, 1) := dc1_42 (by decide +kernel)
theorem dX11_allGo_36 : decode cX11_allGo 36 = .ok (.iload_n 3, 1) := dc1_29 (by decide +kernel)
theorem dX11_allGo_37 : decode cX11_allGo 37 = .ok (.invokevirtual 364, 3) := dcw_182 (by decide +kernel)
theorem dX11_allGo_40 : decode cX11_allGo 40 = .ok (.ifCond .eq 31, 3) := dcs_153 (n := 31) (by decide +kernel)
theorem dX11_allGo_43 : decode cX11_allGo 43 = .ok (.aload_n 0, 1) := dc1_42 (by decide +kernel)
theorem dX11_allGo_44 : decode cX11_allGo 44 = .ok (.iload_n 3, 1) := dc1_29 (by decide +kernel)
theorem dX11_allGo_45 : decode cX11_allGo 45 = .ok (.invokevirtual 361, 3) := dcw_182 (by decide +kernel)
theorem dX11_allGo_48 : decode cX11_allGo 48 = .ok (.ifCond .eq 23, 3) := dcs_153 (n := 23) (by decide +kernel)
theorem dX11_allGo_51 : decode cX11_allGo 51 = .ok (.aload_n 0, 1) := dc1_42 (by decide +kernel)
theorem dX11_allGo_52 : decode cX11_allGo 52 = .ok (.getfield 40, 3) := dcw_180 (by decide +kernel)
theorem dX11_allGo_55 : decode cX11_allGo 55 = .ok (.aload_n 0, 1) := dc1_42 (by decide +kernel)
theorem dX11_allGo_56 : decode cX11_allGo 56 = .ok (.getfield 215, 3) := dcw_180 (by decide +kernel)
theorem dX11_allGo_59 : decode cX11_allGo 59 = .ok (.iaload, 1) := dc1_46 (by decide +kernel)
theorem dX11_allGo_60 : decode cX11_allGo 60 = .ok (.ifCond .le 11, 3) := dcs_158 (n := 11) (by decide +kernel)
theorem dX11_allGo_63 : decode cX11_allGo 63 = .ok (.aload_n 0, 1) := dc1_42 (by decide +kernel)
theorem dX11_allGo_64 : decode cX11_allGo 64 = .ok (.iload_n 3, 1) := dc1_29 (by decide +kernel)
theorem dX11_allGo_65 : decode cX11_allGo 65 = .ok (.invokevirtual 398, 3) := dcw_182 (by decide +kernel)
theorem dX11_allGo_68 : decode cX11_allGo 68 = .ok (.goto 5, 3) := dcs_167 (n := 5) (by decide +kernel)
theorem dX11_allGo_71 : decode cX11_allGo 71 = .ok (.bipush (-2), 2) := dcb_16 (n := 254) (by decide +kernel)
theorem dX11_allGo_73 : decode cX11_allGo 73 = .ok (.istore 4, 2) := dcu_54 (by decide +kernel)
theorem dX11_allGo_75 : decode cX11_allGo 75 = .ok (.iload 4, 2) := dcu_21 (by decide +kernel)
theorem dX11_allGo_77 : decode cX11_allGo 77 = .ok (.ifCond .lt 12, 3) := dcs_155 (n := 12) (by decide +kernel)
theorem dX11_allGo_80 : decode cX11_allGo 80 = .ok (.aload_n 0, 1) := dc1_42 (by decide +kernel)
theorem dX11_allGo_81 : decode cX11_allGo 81 = .ok (.iload_n 3, 1) := dc1_29 (by decide +kernel)
theorem dX11_allGo_82 : decode cX11_allGo 82 = .ok (.iload 4, 2) := dcu_21 (by decide +kernel)
theorem dX11_allGo_84 : decode cX11_allGo 84 = .ok (.iload_n 2, 1) := dc1_28 (by decide +kernel)
theorem dX11_allGo_85 : decode cX11_allGo 85 = .ok (.invokevirtual 373, 3) := dcw_182 (by decide +kernel)
theorem dX11_allGo_88 : decode cX11_allGo 88 = .ok (.pop, 1) := dc1_87 (by decide +kernel)
theorem dX11_allGo_89 : decode cX11_allGo 89 = .ok (.iinc 3 1, 3) := dc_iinc (m := 1) (by decide +kernel)
theorem dX11_allGo_92 : decode cX11_allGo 92 = .ok (.goto (-70), 3) := dcs_167 (n := 65466) (by decide +kernel)
theorem dX11_allGo_95 : decode cX11_allGo 95 = .ok (.iload_n 1, 1) := dc1_27 (by decide +kernel)
theorem dX11_allGo_96 : decode cX11_allGo 96 = .ok (.ifCond .ne 11, 3) := dcs_154 (n := 11) (by decide +kernel)
theorem dX11_allGo_99 : decode cX11_allGo 99 = .ok (.aload_n 0, 1) := dc1_42 (by decide +kernel)
theorem dX11_allGo_100 : decode cX11_allGo 100 = .ok (.iconst 2, 1) := dc1_5 (by decide +kernel)
theorem dX11_allGo_101 : decode cX11_allGo 101 = .ok (.invokevirtual 416, 3) := dcw_182 (by decide +kernel)
theorem dX11_allGo_104 : decode cX11_allGo 104 = .ok (.goto 31, 3) := dcs_167 (n := 31) (by decide +kernel)
theorem dX11_allGo_107 : decode cX11_allGo 107 = .ok (.iload_n 1, 1) := dc1_27 (by decide +kernel)
theorem dX11_allGo_108 : decode cX11_allGo 108 = .ok (.iconst 1, 1) := dc1_4 (by decide +kernel)
theorem dX11_allGo_109 : decode cX11_allGo 109 = .ok (.if_icmp .ne 11, 3) := dcs_160 (n := 11) (by decide +kernel)
theorem dX11_allGo_112 : decode cX11_allGo 112 = .ok (.aload_n 0, 1) := dc1_42 (by decide +kernel)
theorem dX11_allGo_113 : decode cX11_allGo 113 = .ok (.iconst 1, 1) := dc1_4 (by decide +kernel)
theorem dX11_allGo_114 : decode cX11_allGo 114 = .ok (.invokevirtual 416, 3) := dcw_182 (by decide +kernel)
theorem dX11_allGo_117 : decode cX11_allGo 117 = .ok (.goto 18, 3) := dcs_167 (n := 18) (by decide +kernel)
theorem dX11_allGo_120 : decode cX11_allGo 120 = .ok (.aload_n 0, 1) := dc1_42 (by decide +kernel)
theorem dX11_allGo_121 : decode cX11_allGo 121 = .ok (.getfield 101, 3) := dcw_180 (by decide +kernel)
theorem dX11_allGo_124 : decode cX11_allGo 124 = .ok (.bipush 28, 2) := dcb_16 (n := 28) (by decide +kernel)
theorem dX11_allGo_126 : decode cX11_allGo 126 = .ok (.iaload, 1) := dc1_46 (by decide +kernel)
theorem dX11_allGo_127 : decode cX11_allGo 127 = .ok (.aload_n 0, 1) := dc1_42 (by decide +kernel)
theorem dX11_allGo_128 : decode cX11_allGo 128 = .ok (.getfield 98, 3) := dcw_180 (by decide +kernel)
theorem dX11_allGo_131 : decode cX11_allGo 131 = .ok (.bipush 28, 2) := dcb_16 (n := 28) (by decide +kernel)
theorem dX11_allGo_133 : decode cX11_allGo 133 = .ok (.iaload, 1) := dc1_46 (by decide +kernel)
theorem dX11_allGo_134 : decode cX11_allGo 134 = .ok (.isub, 1) := dc1_100 (by decide +kernel)
theorem dX11_allGo_135 : decode cX11_allGo 135 = .ok (.ireturn, 1) := dc1_172 (by decide +kernel)
theorem ggX11_darers_X11_copies : GoodIn wsX11_darers wsX11_copies := gi_sub (fun w h => List.mem_cons_of_mem _ (List.mem_append_left _ (List.mem_append_right _ (List.mem_append_left _ h)))) gd_wsX11_copies
set_option maxRecDepth 20000 in
theorem gX11_darers_X11_copies : GoodIn wsX11_darers (wsV RX11 352 RX11 yX11_copies wsX11_copies) := goodIn_app (goodIn_r _ [3, 4, 5, 6] (by decide +kernel) (by decide +kernel)) ggX11_darers_X11_copies
theorem ggX11_darers_X11_isHere : GoodIn wsX11_darers wsX11_isHere := gi_sub (fun w h => List.mem_cons_of_mem _ (List.mem_append_left _ (List.mem_append_right _ (List.mem_append_right _ (List.mem_append_left _ h))))) gd_wsX11_isHere
set_option maxRecDepth 20000 in
theorem gX11_darers_X11_isHere : GoodIn wsX11_darers (wsV RX11 364 RX11 yX11_isHere wsX11_isHere) := goodIn_app (goodIn_r _ [7, 8, 9, 6] (by decide +kernel) (by decide +kernel)) ggX11_darers_X11_isHere
theorem ggX11_darers_X11_doesDare : GoodIn wsX11_darers wsX11_doesDare := gi_sub (fun w h => List.mem_cons_of_mem _ (List.mem_append_left _ (List.mem_append_right _ (List.mem_append_right _ (List.mem_append_right _ h))))) gd_wsX11_doesDare
set_option maxRecDepth 20000 in
theorem gX11_darers_X11_doesDare : GoodIn wsX11_darers (wsV RX11 361 RX11 yX11_doesDare wsX11_doesDare) := goodIn_app (goodIn_r _ [10, 11, 12, 6] (by decide +kernel) (by decide +kernel)) ggX11_darers_X11_doesDare
theorem dX11_darers_0 : decode cX11_darers 0 = .ok (.aload_n 0, 1) := dc1_42 (by decide +kernel)
theorem dX11_darers_1 : decode cX11_darers 1 = .ok (.invokevirtual 352, 3) := dcw_182 (by decide +kernel)
theorem dX11_darers_4 : decode cX11_darers 4 = .ok (.iconst 0, 1) := dc1_3 (by decide +kernel)
theorem dX11_darers_5 : decode cX11_darers 5 = .ok (.istore_n 1, 1) := dc1_60 (by decide +kernel)
theorem dX11_darers_6 : decode cX11_darers 6 = .ok (.iconst 0, 1) := dc1_3 (by decide +kernel)
theorem dX11_darers_7 : decode cX11_darers 7 = .ok (.istore_n 2, 1) := dc1_61 (by decide +kernel)
theorem dX11_darers_8 : decode cX11_darers 8 = .ok (.iload_n 2, 1) := dc1_28 (by decide +kernel)
theorem dX11_darers_9 : decode cX11_darers 9 = .ok (.aload_n 0, 1) := dc1_42 (by decide +kernel)
theorem dX11_darers_10 : decode cX11_darers 10 = .ok (.getfield 49, 3) := dcw_180 (by decide +kernel)
theorem dX11_darers_13 : decode cX11_darers 13 = .ok (.aload_n 0, 1) := dc1_42 (by decide +kernel)
theorem dX11_darers_14 : decode cX11_darers 14 = .ok (.getfield 215, 3) := dcw_180 (by decide +kernel)
theorem dX11_darers_17 : decode cX11_darers 17 = .ok (.iaload, 1) := dc1_46 (by decide +kernel)
theorem dX11_darers_18 : decode cX11_darers 18 = .ok (.if_icmp .ge 31, 3) := dcs_162 (n := 31) (by decide +kernel)
theorem dX11_darers_21 : decode cX11_darers 21 = .ok (.aload_n 0, 1) := dc1_42 (by decide +kernel)
theorem dX11_darers_22 : decode cX11_darers 22 = .ok (.iload_n 2, 1) := dc1_28 (by decide +kernel)
theorem dX11_darers_23 : decode cX11_darers 23 = .ok (.invokevirtual 364, 3) := dcw_182 (by decide +kernel)
theorem dX11_darers_26 : decode cX11_darers 26 = .ok (.ifCond .eq 17, 3) := dcs_153 (n := 17) (by decide +kernel)
theorem dX11_darers_29 : decode cX11_darers 29 = .ok (.aload_n 0, 1) := dc1_42 (by decide +kernel)
theorem dX11_darers_30 : decode cX11_darers 30 = .ok (.iload_n 2, 1) := dc1_28 (by decide +kernel)
theorem dX11_darers_31 : decode cX11_darers 31 = .ok (.invokevirtual 361, 3) := dcw_182 (by decide +kernel)
theorem dX11_darers_34 : decode cX11_darers 34 = .ok (.ifCond .eq 9, 3) := dcs_153 (n := 9) (by decide +kernel)
theorem dX11_darers_37 : decode cX11_darers 37 = .ok (.iload_n 1, 1) := dc1_27 (by decide +kernel)
theorem dX11_darers_38 : decode cX11_darers 38 = .ok (.iconst 1, 1) := dc1_4 (by decide +kernel)
theorem dX11_darers_39 : decode cX11_darers 39 = .ok (.iload_n 2, 1) := dc1_28 (by decide +kernel)
theorem dX11_darers_40 : decode cX11_darers 40 = .ok (.ishl, 1) := dc1_120 (by decide +kernel)
theorem dX11_darers_41 : decode cX11_darers 41 = .ok (.ior, 1) := dc1_128 (by decide +kernel)
theorem dX11_darers_42 : decode cX11_darers 42 = .ok (.istore_n 1, 1) := dc1_60 (by decide +kernel)
theorem dX11_darers_43 : decode cX11_darers 43 = .ok (.iinc 2 1, 3) := dc_iinc (m := 1) (by decide +kernel)
theorem dX11_darers_46 : decode cX11_darers 46 = .ok (.goto (-38), 3) := dcs_167 (n := 65498) (by decide +kernel)
theorem dX11_darers_49 : decode cX11_darers 49 = .ok (.iload_n 1, 1) := dc1_27 (by decide +kernel)
theorem dX11_darers_50 : decode cX11_darers 50 = .ok (.ireturn, 1) := dc1_172 (by decide +kernel)
theorem ggX11_open_X11_copies : GoodIn wsX11_open wsX11_copies := gi_sub (fun w h => List.mem_cons_of_mem _ (List.mem_append_left _ (List.mem_append_right _ (List.mem_append_left _ h)))) gd_wsX11_copies
set_option maxRecDepth 20000 in
theorem gX11_open_X11_copies : GoodIn wsX11_open (wsV RX11 352 RX11 yX11_copies wsX11_copies) := goodIn_app (goodIn_r _ [3, 4, 5, 6] (by decide +kernel) (by decide +kernel)) ggX11_open_X11_copies
theorem ggX11_open_X11_mayAt : GoodIn wsX11_open wsX11_mayAt := gi_sub (fun w h => List.mem_cons_of_mem _ (List.mem_append_left _ (List.mem_append_right _ (List.mem_append_right _ (List.mem_append_left _ h))))) gd_wsX11_mayAt
set_option maxRecDepth 20000 in
theorem gX11_open_X11_mayAt : GoodIn wsX11_open (wsV RX11 309 RX11 yX11_mayAt wsX11_mayAt) := goodIn_app (goodIn_r _ [7, 8, 9, 6] (by decide +kernel) (by decide +kernel)) ggX11_open_X11_mayAt
theorem ggX11_open_X11_bits : GoodIn wsX11_open wsX11_bits := gi_sub (fun w h => List.mem_cons_of_mem _ (List.mem_append_left _ (List.mem_append_right _ (List.mem_append_right _ (List.mem_append_right _ h))))) gd_wsX11_bits
set_option maxRecDepth 20000 in
theorem gX11_open_X11_bits : GoodIn wsX11_open (va_wsS RX11 312 yX11_bits wsX11_bits) := goodIn_app (goodIn_of _ (by decide +kernel)) ggX11_open_X11_bits
theorem dX11_open_0 : decode cX11_open 0 = .ok (.aload_n 0, 1) := dc1_42 (by decide +kernel)
theorem dX11_open_1 : decode cX11_open 1 = .ok (.invokevirtual 352, 3) := dcw_182 (by decide +kernel)
theorem dX11_open_4 : decode cX11_open 4 = .ok (.iconst 0, 1) := dc1_3 (by decide +kernel)
theorem dX11_open_5 : decode cX11_open 5 = .ok (.istore_n 1, 1) := dc1_60 (by decide +kernel)
theorem dX11_open_6 : decode cX11_open 6 = .ok (.iconst 0, 1) := dc1_3 (by decide +kernel)
theorem dX11_open_7 : decode cX11_open 7 = .ok (.istore_n 2, 1) := dc1_61 (by decide +kernel)
theorem dX11_open_8 : decode cX11_open 8 = .ok (.iload_n 2, 1) := dc1_28 (by decide +kernel)
theorem dX11_open_9 : decode cX11_open 9 = .ok (.aload_n 0, 1) := dc1_42 (by decide +kernel)
theorem dX11_open_10 : decode cX11_open 10 = .ok (.getfield 40, 3) := dcw_180 (by decide +kernel)
theorem dX11_open_13 : decode cX11_open 13 = .ok (.aload_n 0, 1) := dc1_42 (by decide +kernel)
theorem dX11_open_14 : decode cX11_open 14 = .ok (.getfield 215, 3) := dcw_180 (by decide +kernel)
theorem dX11_open_17 : decode cX11_open 17 = .ok (.iaload, 1) := dc1_46 (by decide +kernel)
theorem dX11_open_18 : decode cX11_open 18 = .ok (.if_icmp .ge 27, 3) := dcs_162 (n := 27) (by decide +kernel)
theorem dX11_open_21 : decode cX11_open 21 = .ok (.aload_n 0, 1) := dc1_42 (by decide +kernel)
theorem dX11_open_22 : decode cX11_open 22 = .ok (.iload_n 2, 1) := dc1_28 (by decide +kernel)
theorem dX11_open_23 : decode cX11_open 23 = .ok (.invokevirtual 309, 3) := dcw_182 (by decide +kernel)
theorem dX11_open_26 : decode cX11_open 26 = .ok (.invokestatic 312, 3) := dcw_184 (by decide +kernel)
theorem dX11_open_29 : decode cX11_open 29 = .ok (.iconst 1, 1) := dc1_4 (by decide +kernel)
theorem dX11_open_30 : decode cX11_open 30 = .ok (.if_icmp .le 9, 3) := dcs_164 (n := 9) (by decide +kernel)
theorem dX11_open_33 : decode cX11_open 33 = .ok (.iload_n 1, 1) := dc1_27 (by decide +kernel)
theorem dX11_open_34 : decode cX11_open 34 = .ok (.iconst 1, 1) := dc1_4 (by decide +kernel)
theorem dX11_open_35 : decode cX11_open 35 = .ok (.iload_n 2, 1) := dc1_28 (by decide +kernel)
theorem dX11_open_36 : decode cX11_open 36 = .ok (.ishl, 1) := dc1_120 (by decide +kernel)
theorem dX11_open_37 : decode cX11_open 37 = .ok (.ior, 1) := dc1_128 (by decide +kernel)
theorem dX11_open_38 : decode cX11_open 38 = .ok (.istore_n 1, 1) := dc1_60 (by decide +kernel)
theorem dX11_open_39 : decode cX11_open 39 = .ok (.iinc 2 1, 3) := dc_iinc (m := 1) (by decide +kernel)
theorem dX11_open_42 : decode cX11_open 42 = .ok (.goto (-34), 3) := dcs_167 (n := 65502) (by decide +kernel)
theorem dX11_open_45 : decode cX11_open 45 = .ok (.iload_n 1, 1) := dc1_27 (by decide +kernel)
theorem dX11_open_46 : decode cX11_open 46 = .ok (.ireturn, 1) := dc1_172 (by decide +kernel)
theorem LX11_chosen_215 : Cond.fieldLink RX11 215 "GuessFerryModel" "live" "I" ∈ wsX11_chosen := (List.mem_cons_of_mem _ (List.mem_append_left _ (List.mem_append_left _ (List.mem_of_getElem? (i := 1) rfl))))
theorem LX11_chosen_49 : Cond.fieldLink RX11 49 "GuessFerryModel" "parties" "[I" ∈ wsX11_chosen := (List.mem_cons_of_mem _ (List.mem_append_left _ (List.mem_append_left _ (List.mem_of_getElem? (i := 0) rfl))))
theorem inX11_chosen_X11 : ∀ w ∈ u_ws RX11 TX11 58, w ∈ wsX11_chosen := fun w h => (List.mem_cons_of_mem _ (List.mem_append_right _ h))
set_option maxHeartbeats 4000000 in
set_option maxRecDepth 100000 in
theorem br_chosen_75 {l : Launch} {dC : Nat → ClassId} {dI : Nat → Nat → Nat} {cB cI cJ cZ cS : ClassId} {h : Nat} {a : Nat → Nat} {as : List Value} {r : Int32} {s' : RS} {k11 : RS → Int32 → Int32 → Int32 → Option (Int32 × RS)} (hk11 : ∀ (s : RS) (x1 : Int32) (x2 : Int32) (x3 : Int32), k11 s x1 x2 x3 = some (r, s') → BlkI l yX11_chosen wsX11_chosen ({ frames := 6, cells := 0, slots := 0, locals := 137 }) cX11_chosen 5 (some .int) (dC, dI) (tysA cB cI cJ cZ cS) as 11 (mwS cB cI cJ cZ h a s) [(0, .ref h), (1, .int x1), (2, .int x2), (3, .int x3)] [] (fun x u => x = r ∧ u = (mwS cB cI cJ cZ h a s'))) (s : RS) (x1 : Int32) (x2 : Int32) (x3 : Int32) (hB : r_chosen_75 k11 s x1 x2 x3 = some (r, s')) : BlkI l yX11_chosen wsX11_chosen ({ frames := 6, cells := 0, slots := 0, locals := 137 }) cX11_chosen 5 (some .int) (dC, dI) (tysA cB cI cJ cZ cS) as 75 (mwS cB cI cJ cZ h a s) [(0, .ref h), (1, .int x1), (2, .int x2), (3, .int x3)] [] (fun x u => x = r ∧ u = (mwS cB cI cJ cZ h a s')) := by
  intro p e s0 m below meth c A E H locs ls hP hD hS hl
  obtain ⟨C, hr, hlocks, hA, hK, hN⟩ := id E
  obtain ⟨hx, hb, hml, hown, hts⟩ := id C
  unfold r_chosen_75 at hB
  refine lv_iinc (v := (x3 + 1)) (lv' := [(3, .int (x3 + 1)), (0, .ref h), (1, .int x1), (2, .int x2)]) hx hb dX11_chosen_75 hl (k := 3) rfl (rfl) (by decide) rfl (fun ls hl => ?_)
  refine lv_goto (tgt := 11) hx hb dX11_chosen_78 (by decide) ?_
  exact hk11 _ _ _ _ hB p e s0 m below meth c A E H locs ls hP hD hS (lv_sub hl [1, 2, 3, 0] rfl)
set_option maxHeartbeats 4000000 in
set_option maxRecDepth 100000 in
theorem br_chosen_66 {l : Launch} {dC : Nat → ClassId} {dI : Nat → Nat → Nat} {cB cI cJ cZ cS : ClassId} {h : Nat} {a : Nat → Nat} {as : List Value} {r : Int32} {s' : RS} {k11 : RS → Int32 → Int32 → Int32 → Option (Int32 × RS)} (hk11 : ∀ (s : RS) (x1 : Int32) (x2 : Int32) (x3 : Int32), k11 s x1 x2 x3 = some (r, s') → BlkI l yX11_chosen wsX11_chosen ({ frames := 6, cells := 0, slots := 0, locals := 137 }) cX11_chosen 5 (some .int) (dC, dI) (tysA cB cI cJ cZ cS) as 11 (mwS cB cI cJ cZ h a s) [(0, .ref h), (1, .int x1), (2, .int x2), (3, .int x3)] [] (fun x u => x = r ∧ u = (mwS cB cI cJ cZ h a s'))) (s : RS) (x3 : Int32) (x4 : Int32) (hB : r_chosen_66 k11 s x3 x4 = some (r, s')) : BlkI l yX11_chosen wsX11_chosen ({ frames := 6, cells := 0, slots := 0, locals := 137 }) cX11_chosen 5 (some .int) (dC, dI) (tysA cB cI cJ cZ cS) as 66 (mwS cB cI cJ cZ h a s) [(0, .ref h), (3, .int x3), (4, .int x4)] [] (fun x u => x = r ∧ u = (mwS cB cI cJ cZ h a s')) := by
  intro p e s0 m below meth c A E H locs ls hP hD hS hl
  obtain ⟨C, hr, hlocks, hA, hK, hN⟩ := id E
  obtain ⟨hx, hb, hml, hown, hts⟩ := id C
  unfold r_chosen_66 at hB
  refine lv_iload_n hx hb dX11_chosen_66 rfl (lv_at hl 1 rfl) ?_
  refine lv_istore_n (lv' := [(1, .int x3), (0, .ref h), (3, .int x3), (4, .int x4)]) hx hb dX11_chosen_67 rfl hl (by decide) rfl (fun ls hl => ?_)
  refine lv_aload_n hx hb dX11_chosen_68 rfl (lv_at hl 1 rfl) ?_
  refine lv_iload hx hb dX11_chosen_69 (lv_at hl 3 rfl) ?_
  obtain ⟨q_, s1, hc, hB⟩ := bindI_inv hB
  refine q_goiF (va_runV (As := [.int x4]) (rest := []) C (cr_chanceOf hc _) (cwV 1 hts gX11_chosen_X11_chanceOf rfl rfl rfl (by decide +kernel) ⟨Nat.le_of_ble_eq_true rfl, Nat.le_of_ble_eq_true rfl⟩) (q_preV hK hP (ci := 11) (q0 := 0) rfl rfl rfl (q_preF hN hK hP hD)) rfl rfl hl.1 rfl (lv_room (Nat.le_of_ble_eq_true rfl)) dX11_chosen_71 ⟨Nat.le_of_ble_eq_true rfl, Nat.le_of_ble_eq_true rfl⟩) hD hS hA (fun r2 w1 H locs hw hP hD hS => ?_)
  obtain ⟨hq_, hw⟩ := hw; subst hw; subst hq_
  refine lv_istore_n (lv' := [(2, .int r2), (1, .int x3), (0, .ref h), (3, .int x3), (4, .int x4)]) hx hb dX11_chosen_74 rfl hl (by decide) rfl (fun ls hl => ?_)
  exact br_chosen_75 (hk11) _ _ _ _ hB p e s0 m below meth c A E H locs ls hP hD hS (lv_sub hl [2, 1, 0, 3] rfl)
set_option maxHeartbeats 4000000 in
set_option maxRecDepth 100000 in
theorem br_chosen_42 {l : Launch} {dC : Nat → ClassId} {dI : Nat → Nat → Nat} {cB cI cJ cZ cS : ClassId} {h : Nat} {a : Nat → Nat} {as : List Value} {r : Int32} {s' : RS} {k11 : RS → Int32 → Int32 → Int32 → Option (Int32 × RS)} (hk11 : ∀ (s : RS) (x1 : Int32) (x2 : Int32) (x3 : Int32), k11 s x1 x2 x3 = some (r, s') → BlkI l yX11_chosen wsX11_chosen ({ frames := 6, cells := 0, slots := 0, locals := 137 }) cX11_chosen 5 (some .int) (dC, dI) (tysA cB cI cJ cZ cS) as 11 (mwS cB cI cJ cZ h a s) [(0, .ref h), (1, .int x1), (2, .int x2), (3, .int x3)] [] (fun x u => x = r ∧ u = (mwS cB cI cJ cZ h a s'))) (s : RS) (x1 : Int32) (x2 : Int32) (x3 : Int32) (t0 : Int32) (hB : r_chosen_42 k11 s x1 x2 x3 t0 = some (r, s')) : BlkI l yX11_chosen wsX11_chosen ({ frames := 6, cells := 0, slots := 0, locals := 137 }) cX11_chosen 5 (some .int) (dC, dI) (tysA cB cI cJ cZ cS) as 42 (mwS cB cI cJ cZ h a s) [(0, .ref h), (1, .int x1), (2, .int x2), (3, .int x3)] [.int t0] (fun x u => x = r ∧ u = (mwS cB cI cJ cZ h a s')) := by
  intro p e s0 m below meth c A E H locs ls hP hD hS hl
  obtain ⟨C, hr, hlocks, hA, hK, hN⟩ := id E
  obtain ⟨hx, hb, hml, hown, hts⟩ := id C
  unfold r_chosen_42 at hB
  refine lv_istore (lv' := [(4, .int t0), (0, .ref h), (1, .int x1), (2, .int x2), (3, .int x3)]) hx hb dX11_chosen_42 hl (by decide) rfl (fun ls hl => ?_)
  refine lv_iload hx hb dX11_chosen_44 (lv_at hl 0 rfl) ?_
  refine lv_if_lt (tgt := 75) hx hb dX11_chosen_46 (by decide) (fun c1 => ?_) (fun c1 => ?_)
  · have hB := if_p hB c1
    exact br_chosen_75 (hk11) _ _ _ _ hB p e s0 m below meth c A E H locs ls hP hD hS (lv_sub hl [1, 2, 3, 4] rfl)
  · have hB := if_n hB c1
    refine lv_iload_n hx hb dX11_chosen_49 rfl (lv_at hl 2 rfl) ?_
    refine lv_if_lt (tgt := 66) hx hb dX11_chosen_50 (by decide) (fun c2 => ?_) (fun c2 => ?_)
    · have hB := if_p hB c2
      exact br_chosen_66 (hk11) _ _ _ hB p e s0 m below meth c A E H locs ls hP hD hS (lv_sub hl [1, 4, 0] rfl)
    · have hB := if_n hB c2
      refine lv_aload_n hx hb dX11_chosen_53 rfl (lv_at hl 1 rfl) ?_
      refine lv_iload hx hb dX11_chosen_54 (lv_at hl 0 rfl) ?_
      obtain ⟨q_, s3, hc, hB⟩ := bindI_inv hB
      refine q_goiF (va_runV (As := [.int t0]) (rest := []) C (cr_chanceOf hc _) (cwV 1 hts gX11_chosen_X11_chanceOf rfl rfl rfl (by decide +kernel) ⟨Nat.le_of_ble_eq_true rfl, Nat.le_of_ble_eq_true rfl⟩) (q_preV hK hP (ci := 11) (q0 := 0) rfl rfl rfl (q_preF hN hK hP hD)) rfl rfl hl.1 rfl (lv_room (Nat.le_of_ble_eq_true rfl)) dX11_chosen_56 ⟨Nat.le_of_ble_eq_true rfl, Nat.le_of_ble_eq_true rfl⟩) hD hS hA (fun r4 w1 H locs hw hP hD hS => ?_)
      obtain ⟨hq_, hw⟩ := hw; subst hw; subst hq_
      refine lv_iload_n hx hb dX11_chosen_59 rfl (lv_at hl 3 rfl) ?_
      refine lv_icmp_gt (tgt := 66) hx hb dX11_chosen_60 (by decide) (fun c5 => ?_) (fun c5 => ?_)
      · have hB := if_p hB c5
        exact br_chosen_66 (hk11) _ _ _ hB p e s0 m below meth c A E H locs ls hP hD hS (lv_sub hl [1, 4, 0] rfl)
      · have hB := if_n hB c5
        refine lv_goto (tgt := 75) hx hb dX11_chosen_63 (by decide) ?_
        exact br_chosen_75 (hk11) _ _ _ _ hB p e s0 m below meth c A E H locs ls hP hD hS (lv_sub hl [1, 2, 3, 4] rfl)
set_option maxHeartbeats 4000000 in
set_option maxRecDepth 100000 in
theorem br_chosen_11 {l : Launch} {dC : Nat → ClassId} {dI : Nat → Nat → Nat} {cB cI cJ cZ cS : ClassId} {h : Nat} {a : Nat → Nat} {as : List Value} {r : Int32} {s' : RS} {k11 : RS → Int32 → Int32 → Int32 → Option (Int32 × RS)} (hk11 : ∀ (s : RS) (x1 : Int32) (x2 : Int32) (x3 : Int32), k11 s x1 x2 x3 = some (r, s') → BlkI l yX11_chosen wsX11_chosen ({ frames := 6, cells := 0, slots := 0, locals := 137 }) cX11_chosen 5 (some .int) (dC, dI) (tysA cB cI cJ cZ cS) as 11 (mwS cB cI cJ cZ h a s) [(0, .ref h), (1, .int x1), (2, .int x2), (3, .int x3)] [] (fun x u => x = r ∧ u = (mwS cB cI cJ cZ h a s'))) (s : RS) (x1 : Int32) (x2 : Int32) (x3 : Int32) (hB : r_chosen_11 k11 s x1 x2 x3 = some (r, s')) : BlkI l yX11_chosen wsX11_chosen ({ frames := 6, cells := 0, slots := 0, locals := 137 }) cX11_chosen 5 (some .int) (dC, dI) (tysA cB cI cJ cZ cS) as 11 (mwS cB cI cJ cZ h a s) [(0, .ref h), (1, .int x1), (2, .int x2), (3, .int x3)] [] (fun x u => x = r ∧ u = (mwS cB cI cJ cZ h a s')) := by
  intro p e s0 m below meth c A E H locs ls hP hD hS hl
  obtain ⟨C, hr, hlocks, hA, hK, hN⟩ := id E
  obtain ⟨hx, hb, hml, hown, hts⟩ := id C
  unfold r_chosen_11 at hB
  refine lv_iload_n hx hb dX11_chosen_11 rfl (lv_at hl 3 rfl) ?_
  refine lv_aload_n hx hb dX11_chosen_12 rfl (lv_at hl 0 rfl) ?_
  refine q_get (v := .ref (a 23)) C inX11_chosen_X11 hK hP 0 rfl rfl 23 (by decide) rfl LX11_chosen_49 rfl dX11_chosen_13 ?_
  refine lv_aload_n hx hb dX11_chosen_16 rfl (lv_at hl 0 rfl) ?_
  refine q_get (v := .int (s.v 18)) C inX11_chosen_X11 hK hP 0 rfl rfl 18 (by decide) rfl LX11_chosen_215 rfl dX11_chosen_17 ?_
  obtain ⟨g1, hB⟩ := guard_inv hB
  refine q_iald (x := (s.f 23 (Int32.toNatClampNeg (s.v 18)))) C hK hP 11 1 rfl rfl (vpb_in g1) dX11_chosen_20 rfl ?_
  refine lv_icmp_ge (tgt := 81) hx hb dX11_chosen_21 (by decide) (fun c2 => ?_) (fun c2 => ?_)
  · have hB := if_p hB c2
    refine lv_iload_n hx hb dX11_chosen_81 rfl (lv_at hl 1 rfl) ?_
    exact q_iret C hr hlocks hK hP hD hS (Nat.le_of_ble_eq_true rfl) (Nat.le_of_ble_eq_true rfl) dX11_chosen_82 (by cases hB; exact ⟨rfl, rfl⟩)
  · have hB := if_n hB c2
    refine lv_aload_n hx hb dX11_chosen_24 rfl (lv_at hl 0 rfl) ?_
    refine lv_iload_n hx hb dX11_chosen_25 rfl (lv_at hl 3 rfl) ?_
    obtain ⟨q_, s3, hc, hB⟩ := bindI_inv hB
    refine q_goiF (va_runV (As := [.int x3]) (rest := []) C (cr_isHere hc _) (cwV 1 hts gX11_chosen_X11_isHere rfl rfl rfl (by decide +kernel) ⟨Nat.le_of_ble_eq_true rfl, Nat.le_of_ble_eq_true rfl⟩) (q_preV hK hP (ci := 11) (q0 := 0) rfl rfl rfl (q_preF hN hK hP hD)) rfl rfl hl.1 rfl (lv_room (Nat.le_of_ble_eq_true rfl)) dX11_chosen_26 ⟨Nat.le_of_ble_eq_true rfl, Nat.le_of_ble_eq_true rfl⟩) hD hS hA (fun r4 w1 H locs hw hP hD hS => ?_)
    obtain ⟨hq_, hw⟩ := hw; subst hw; subst hq_
    refine lv_if_eq (tgt := 40) hx hb dX11_chosen_29 (by decide) (fun c5 => ?_) (fun c5 => ?_)
    · have hB := if_p hB c5
      refine lv_bipush (v := (-2)) hx hb dX11_chosen_40 (by decide) ?_
      exact br_chosen_42 (hk11) _ _ _ _ _ hB p e s0 m below meth c A E H locs ls hP hD hS (lv_sub hl [0, 1, 2, 3] rfl)
    · have hB := if_n hB c5
      refine lv_aload_n hx hb dX11_chosen_32 rfl (lv_at hl 0 rfl) ?_
      refine lv_iload_n hx hb dX11_chosen_33 rfl (lv_at hl 3 rfl) ?_
      obtain ⟨q_, s6, hc, hB⟩ := bindI_inv hB
      refine q_goiF (va_runV (As := [.int x3]) (rest := []) C (cr_bestFor hc _) (cwV 1 hts gX11_chosen_X11_bestFor rfl rfl rfl (by decide +kernel) ⟨Nat.le_of_ble_eq_true rfl, Nat.le_of_ble_eq_true rfl⟩) (q_preV hK hP (ci := 11) (q0 := 0) rfl rfl rfl (q_preF hN hK hP hD)) rfl rfl hl.1 rfl (lv_room (Nat.le_of_ble_eq_true rfl)) dX11_chosen_34 ⟨Nat.le_of_ble_eq_true rfl, Nat.le_of_ble_eq_true rfl⟩) hD hS hA (fun r7 w1 H locs hw hP hD hS => ?_)
      obtain ⟨hq_, hw⟩ := hw; subst hw; subst hq_
      refine lv_goto (tgt := 42) hx hb dX11_chosen_37 (by decide) ?_
      exact br_chosen_42 (hk11) _ _ _ _ _ hB p e s0 m below meth c A E H locs ls hP hD hS (lv_sub hl [0, 1, 2, 3] rfl)
theorem br_chosen_11L {l : Launch} {dC : Nat → ClassId} {dI : Nat → Nat → Nat} {cB cI cJ cZ cS : ClassId} {h : Nat} {a : Nat → Nat} {as : List Value} {r : Int32} {s' : RS} : ∀ (n : Nat) (s : RS) (x1 : Int32) (x2 : Int32) (x3 : Int32), r_chosen_11L n s x1 x2 x3 = some (r, s') → BlkI l yX11_chosen wsX11_chosen ({ frames := 6, cells := 0, slots := 0, locals := 137 }) cX11_chosen 5 (some .int) (dC, dI) (tysA cB cI cJ cZ cS) as 11 (mwS cB cI cJ cZ h a s) [(0, .ref h), (1, .int x1), (2, .int x2), (3, .int x3)] [] (fun x u => x = r ∧ u = (mwS cB cI cJ cZ h a s')) := by
  intro n
  induction n with
  | zero => intro s x1 x2 x3 hB; exact none_ne hB
  | succ n ih => intro s x1 x2 x3 hB; exact br_chosen_11 ih _ _ _ _ hB
set_option maxHeartbeats 4000000 in
set_option maxRecDepth 100000 in
theorem br_chosen {l : Launch} {dC : Nat → ClassId} {dI : Nat → Nat → Nat} {cB cI cJ cZ cS : ClassId} {h : Nat} {a : Nat → Nat} {as : List Value} {r : Int32} {s' : RS} (s : RS) (hB : r_chosen s = some (r, s')) : BlkI l yX11_chosen wsX11_chosen ({ frames := 6, cells := 0, slots := 0, locals := 137 }) cX11_chosen 5 (some .int) (dC, dI) (tysA cB cI cJ cZ cS) as 0 (mwS cB cI cJ cZ h a s) [(0, .ref h)] [] (fun x u => x = r ∧ u = (mwS cB cI cJ cZ h a s')) := by
  intro p e s0 m below meth c A E H locs ls hP hD hS hl
  obtain ⟨C, hr, hlocks, hA, hK, hN⟩ := id E
  obtain ⟨hx, hb, hml, hown, hts⟩ := id C
  unfold r_chosen at hB
  refine lv_aload_n hx hb dX11_chosen_0 rfl (lv_at hl 0 rfl) ?_
  obtain ⟨s1, hc, hB⟩ := bindP_inv hB
  refine q_govF (va_runV (As := []) (rest := []) C (cr_copies hc _) (cwV 0 hts gX11_chosen_X11_copies rfl rfl rfl (by decide +kernel) ⟨Nat.le_of_ble_eq_true rfl, Nat.le_of_ble_eq_true rfl⟩) (q_preV hK hP (ci := 11) (q0 := 0) rfl rfl rfl (q_preF hN hK hP hD)) rfl rfl hl.1 rfl (lv_room (Nat.le_of_ble_eq_true rfl)) dX11_chosen_1 ⟨Nat.le_of_ble_eq_true rfl, Nat.le_of_ble_eq_true rfl⟩) hD hS hA (fun w1 H locs hw hP hD hS => ?_)
  subst hw
  refine lv_bipush (v := (-2)) hx hb dX11_chosen_4 (by decide) ?_
  refine lv_istore_n (lv' := [(1, .int (-2)), (0, .ref h)]) hx hb dX11_chosen_6 rfl hl (by decide) rfl (fun ls hl => ?_)
  refine lv_iconst (v := 0) hx hb dX11_chosen_7 (by decide) ?_
  refine lv_istore_n (lv' := [(2, .int 0), (1, .int (-2)), (0, .ref h)]) hx hb dX11_chosen_8 rfl hl (by decide) rfl (fun ls hl => ?_)
  refine lv_iconst (v := 0) hx hb dX11_chosen_9 (by decide) ?_
  refine lv_istore_n (lv' := [(3, .int 0), (2, .int 0), (1, .int (-2)), (0, .ref h)]) hx hb dX11_chosen_10 rfl hl (by decide) rfl (fun ls hl => ?_)
  exact br_chosen_11L fu _ _ _ _ hB p e s0 m below meth c A E H locs ls hP hD hS (lv_sub hl [3, 2, 1, 0] rfl)
theorem cr_chosen {l : Launch} {dC : Nat → ClassId} {dI : Nat → Nat → Nat} {cB cI cJ cZ cS : ClassId} {h : Nat} {a : Nat → Nat} {r : Int32} {s' : RS} {s : RS} (hB : r_chosen s = some (r, s')) : CI l yX11_chosen wsX11_chosen ({ frames := 6, cells := 0, slots := 0, locals := 137 }) (dC, dI) (tysA cB cI cJ cZ cS) (mwS cB cI cJ cZ h a s) [.ref h] (fun x u => x = r ∧ u = (mwS cB cI cJ cZ h a s')) :=
  CI_of (cc := cX11_chosen) (maxL := 5) (ret := (some .int)) (by decide) rfl (Nat.le_of_ble_eq_true rfl) (br_chosen _ hB)
theorem LX11_manyIn_101 : Cond.fieldLink RX11 101 "GuessFerryModel" "row" "[I" ∈ wsX11_manyIn := (List.mem_cons_of_mem _ (List.mem_append_left _ (List.mem_of_getElem? (i := 2) rfl)))
theorem LX11_manyIn_215 : Cond.fieldLink RX11 215 "GuessFerryModel" "live" "I" ∈ wsX11_manyIn := (List.mem_cons_of_mem _ (List.mem_append_left _ (List.mem_of_getElem? (i := 1) rfl)))
theorem LX11_manyIn_49 : Cond.fieldLink RX11 49 "GuessFerryModel" "parties" "[I" ∈ wsX11_manyIn := (List.mem_cons_of_mem _ (List.mem_append_left _ (List.mem_of_getElem? (i := 0) rfl)))
theorem inX11_manyIn_X11 : ∀ w ∈ u_ws RX11 TX11 58, w ∈ wsX11_manyIn := fun _ h => List.mem_cons_of_mem _ (List.mem_append_right _ h)
set_option maxHeartbeats 4000000 in
set_option maxRecDepth 100000 in
theorem br_manyIn_33 {l : Launch} {dC : Nat → ClassId} {dI : Nat → Nat → Nat} {cB cI cJ cZ cS : ClassId} {h : Nat} {a : Nat → Nat} {as : List Value} {r : Int32} {s' : RS} {k4 : RS → Int32 → Int32 → Int32 → Option (Int32 × RS)} (hk4 : ∀ (s : RS) (x1 : Int32) (x2 : Int32) (x3 : Int32), k4 s x1 x2 x3 = some (r, s') → BlkI l yX11_manyIn wsX11_manyIn ({ frames := 0, cells := 0, slots := 0, locals := 0 }) cX11_manyIn 4 (some .int) (dC, dI) (tysA cB cI cJ cZ cS) as 4 (mwS cB cI cJ cZ h a s) [(0, .ref h), (1, .int x1), (2, .int x2), (3, .int x3)] [] (fun x u => x = r ∧ u = (mwS cB cI cJ cZ h a s'))) (s : RS) (x1 : Int32) (x2 : Int32) (x3 : Int32) (hB : r_manyIn_33 k4 s x1 x2 x3 = some (r, s')) : BlkI l yX11_manyIn wsX11_manyIn ({ frames := 0, cells := 0, slots := 0, locals := 0 }) cX11_manyIn 4 (some .int) (dC, dI) (tysA cB cI cJ cZ cS) as 33 (mwS cB cI cJ cZ h a s) [(0, .ref h), (1, .int x1), (2, .int x2), (3, .int x3)] [] (fun x u => x = r ∧ u = (mwS cB cI cJ cZ h a s')) := by
  intro p e s0 m below meth c A E H locs ls hP hD hS hl
  obtain ⟨C, hr, hlocks, hA, hK, hN⟩ := id E
  obtain ⟨hx, hb, hml, hown, hts⟩ := id C
  unfold r_manyIn_33 at hB
  refine lv_iinc (v := (x3 + 1)) (lv' := [(3, .int (x3 + 1)), (0, .ref h), (1, .int x1), (2, .int x2)]) hx hb dX11_manyIn_33 hl (k := 3) rfl (rfl) (by decide) rfl (fun ls hl => ?_)
  refine lv_goto (tgt := 4) hx hb dX11_manyIn_36 (by decide) ?_
  exact hk4 _ _ _ _ hB p e s0 m below meth c A E H locs ls hP hD hS (lv_sub hl [1, 2, 3, 0] rfl)
set_option maxHeartbeats 4000000 in
set_option maxRecDepth 100000 in
theorem br_manyIn_4 {l : Launch} {dC : Nat → ClassId} {dI : Nat → Nat → Nat} {cB cI cJ cZ cS : ClassId} {h : Nat} {a : Nat → Nat} {as : List Value} {r : Int32} {s' : RS} {k4 : RS → Int32 → Int32 → Int32 → Option (Int32 × RS)} (hk4 : ∀ (s : RS) (x1 : Int32) (x2 : Int32) (x3 : Int32), k4 s x1 x2 x3 = some (r, s') → BlkI l yX11_manyIn wsX11_manyIn ({ frames := 0, cells := 0, slots := 0, locals := 0 }) cX11_manyIn 4 (some .int) (dC, dI) (tysA cB cI cJ cZ cS) as 4 (mwS cB cI cJ cZ h a s) [(0, .ref h), (1, .int x1), (2, .int x2), (3, .int x3)] [] (fun x u => x = r ∧ u = (mwS cB cI cJ cZ h a s'))) (s : RS) (x1 : Int32) (x2 : Int32) (x3 : Int32) (hB : r_manyIn_4 k4 s x1 x2 x3 = some (r, s')) : BlkI l yX11_manyIn wsX11_manyIn ({ frames := 0, cells := 0, slots := 0, locals := 0 }) cX11_manyIn 4 (some .int) (dC, dI) (tysA cB cI cJ cZ cS) as 4 (mwS cB cI cJ cZ h a s) [(0, .ref h), (1, .int x1), (2, .int x2), (3, .int x3)] [] (fun x u => x = r ∧ u = (mwS cB cI cJ cZ h a s')) := by
  intro p e s0 m below meth c A E H locs ls hP hD hS hl
  obtain ⟨C, hr, hlocks, hA, hK, hN⟩ := id E
  obtain ⟨hx, hb, hml, hown, hts⟩ := id C
  unfold r_manyIn_4 at hB
  refine lv_iload_n hx hb dX11_manyIn_4 rfl (lv_at hl 3 rfl) ?_
  refine lv_aload_n hx hb dX11_manyIn_5 rfl (lv_at hl 0 rfl) ?_
  refine q_get (v := .ref (a 23)) C inX11_manyIn_X11 hK hP 0 rfl rfl 23 (by decide) rfl LX11_manyIn_49 rfl dX11_manyIn_6 ?_
  refine lv_aload_n hx hb dX11_manyIn_9 rfl (lv_at hl 0 rfl) ?_
  refine q_get (v := .int (s.v 18)) C inX11_manyIn_X11 hK hP 0 rfl rfl 18 (by decide) rfl LX11_manyIn_215 rfl dX11_manyIn_10 ?_
  obtain ⟨g1, hB⟩ := guard_inv hB
  refine q_iald (x := (s.f 23 (Int32.toNatClampNeg (s.v 18)))) C hK hP 11 1 rfl rfl (vpb_in g1) dX11_manyIn_13 rfl ?_
  refine lv_icmp_ge (tgt := 39) hx hb dX11_manyIn_14 (by decide) (fun c2 => ?_) (fun c2 => ?_)
  · have hB := if_p hB c2
    refine lv_iload_n hx hb dX11_manyIn_39 rfl (lv_at hl 2 rfl) ?_
    exact q_iret C hr hlocks hK hP hD hS (Nat.le_of_ble_eq_true rfl) (Nat.le_of_ble_eq_true rfl) dX11_manyIn_40 (by cases hB; exact ⟨rfl, rfl⟩)
  · have hB := if_n hB c2
    refine lv_aload_n hx hb dX11_manyIn_17 rfl (lv_at hl 0 rfl) ?_
    refine q_get (v := .ref (a 44)) C inX11_manyIn_X11 hK hP 0 rfl rfl 44 (by decide) rfl LX11_manyIn_101 rfl dX11_manyIn_18 ?_
    refine lv_bipush (v := 15) hx hb dX11_manyIn_21 (by decide) ?_
    refine lv_iload_n hx hb dX11_manyIn_23 rfl (lv_at hl 3 rfl) ?_
    refine lv_iadd hx hb dX11_manyIn_24 ?_
    obtain ⟨g3, hB⟩ := guard_inv hB
    refine q_iald (x := (s.f 44 (Int32.toNatClampNeg (15 + x3)))) C hK hP 28 1 rfl rfl (vpb_in g3) dX11_manyIn_25 rfl ?_
    refine lv_iload_n hx hb dX11_manyIn_26 rfl (lv_at hl 1 rfl) ?_
    refine lv_icmp_ne (tgt := 33) hx hb dX11_manyIn_27 (by decide) (fun c4 => ?_) (fun c4 => ?_)
    · have hB := if_n hB c4
      exact br_manyIn_33 (hk4) _ _ _ _ hB p e s0 m below meth c A E H locs ls hP hD hS (lv_sub hl [0, 1, 2, 3] rfl)
    · have hB := if_p hB c4
      refine lv_iinc (v := (x2 + 1)) (lv' := [(2, .int (x2 + 1)), (0, .ref h), (1, .int x1), (3, .int x3)]) hx hb dX11_manyIn_30 hl (k := 2) rfl (rfl) (by decide) rfl (fun ls hl => ?_)
      exact br_manyIn_33 (hk4) _ _ _ _ hB p e s0 m below meth c A E H locs ls hP hD hS (lv_sub hl [1, 2, 0, 3] rfl)
theorem br_manyIn_4L {l : Launch} {dC : Nat → ClassId} {dI : Nat → Nat → Nat} {cB cI cJ cZ cS : ClassId} {h : Nat} {a : Nat → Nat} {as : List Value} {r : Int32} {s' : RS} : ∀ (n : Nat) (s : RS) (x1 : Int32) (x2 : Int32) (x3 : Int32), r_manyIn_4L n s x1 x2 x3 = some (r, s') → BlkI l yX11_manyIn wsX11_manyIn ({ frames := 0, cells := 0, slots := 0, locals := 0 }) cX11_manyIn 4 (some .int) (dC, dI) (tysA cB cI cJ cZ cS) as 4 (mwS cB cI cJ cZ h a s) [(0, .ref h), (1, .int x1), (2, .int x2), (3, .int x3)] [] (fun x u => x = r ∧ u = (mwS cB cI cJ cZ h a s')) := by
  intro n
  induction n with
  | zero => intro s x1 x2 x3 hB; exact none_ne hB
  | succ n ih => intro s x1 x2 x3 hB; exact br_manyIn_4 ih _ _ _ _ hB
set_option maxHeartbeats 4000000 in
set_option maxRecDepth 100000 in
theorem br_manyIn {l : Launch} {dC : Nat → ClassId} {dI : Nat → Nat → Nat} {cB cI cJ cZ cS : ClassId} {h : Nat} {a : Nat → Nat} {as : List Value} {r : Int32} {s' : RS} (s : RS) (x1 : Int32) (hB : r_manyIn s x1 = some (r, s')) : BlkI l yX11_manyIn wsX11_manyIn ({ frames := 0, cells := 0, slots := 0, locals := 0 }) cX11_manyIn 4 (some .int) (dC, dI) (tysA cB cI cJ cZ cS) as 0 (mwS cB cI cJ cZ h a s) [(0, .ref h), (1, .int x1)] [] (fun x u => x = r ∧ u = (mwS cB cI cJ cZ h a s')) := by
  intro p e s0 m below meth c A E H locs ls hP hD hS hl
  obtain ⟨C, hr, hlocks, hA, hK, hN⟩ := id E
  obtain ⟨hx, hb, hml, hown, hts⟩ := id C
  unfold r_manyIn at hB
  refine lv_iconst (v := 0) hx hb dX11_manyIn_0 (by decide) ?_
  refine lv_istore_n (lv' := [(2, .int 0), (0, .ref h), (1, .int x1)]) hx hb dX11_manyIn_1 rfl hl (by decide) rfl (fun ls hl => ?_)
  refine lv_iconst (v := 0) hx hb dX11_manyIn_2 (by decide) ?_
  refine lv_istore_n (lv' := [(3, .int 0), (2, .int 0), (0, .ref h), (1, .int x1)]) hx hb dX11_manyIn_3 rfl hl (by decide) rfl (fun ls hl => ?_)
  exact br_manyIn_4L fu _ _ _ _ hB p e s0 m below meth c A E H locs ls hP hD hS (lv_sub hl [2, 3, 1, 0] rfl)
theorem cr_manyIn {l : Launch} {dC : Nat → ClassId} {dI : Nat → Nat → Nat} {cB cI cJ cZ cS : ClassId} {h : Nat} {a : Nat → Nat} {r : Int32} {s' : RS} {s : RS} {x1 : Int32} (hB : r_manyIn s x1 = some (r, s')) : CI l yX11_manyIn wsX11_manyIn ({ frames := 0, cells := 0, slots := 0, locals := 0 }) (dC, dI) (tysA cB cI cJ cZ cS) (mwS cB cI cJ cZ h a s) [.ref h, .int x1] (fun x u => x = r ∧ u = (mwS cB cI cJ cZ h a s')) :=
  CI_of (cc := cX11_manyIn) (maxL := 4) (ret := (some .int)) (by decide) rfl (Nat.le_of_ble_eq_true rfl) (br_manyIn _ _ hB)
theorem LX11_allGo_101 : Cond.fieldLink RX11 101 "GuessFerryModel" "row" "[I" ∈ wsX11_allGo := (List.mem_cons_of_mem _ (List.mem_append_left _ (List.mem_append_left _ (List.mem_of_getElem? (i := 3) rfl))))
theorem LX11_allGo_215 : Cond.fieldLink RX11 215 "GuessFerryModel" "live" "I" ∈ wsX11_allGo := (List.mem_cons_of_mem _ (List.mem_append_left _ (List.mem_append_left _ (List.mem_of_getElem? (i := 1) rfl))))
theorem LX11_allGo_40 : Cond.fieldLink RX11 40 "GuessFerryModel" "waves" "[I" ∈ wsX11_allGo := (List.mem_cons_of_mem _ (List.mem_append_left _ (List.mem_append_left _ (List.mem_of_getElem? (i := 2) rfl))))
theorem LX11_allGo_49 : Cond.fieldLink RX11 49 "GuessFerryModel" "parties" "[I" ∈ wsX11_allGo := (List.mem_cons_of_mem _ (List.mem_append_left _ (List.mem_append_left _ (List.mem_of_getElem? (i := 0) rfl))))
theorem LX11_allGo_98 : Cond.fieldLink RX11 98 "GuessFerryModel" "now" "[I" ∈ wsX11_allGo := (List.mem_cons_of_mem _ (List.mem_append_left _ (List.mem_append_left _ (List.mem_of_getElem? (i := 4) rfl))))
theorem inX11_allGo_X11 : ∀ w ∈ u_ws RX11 TX11 58, w ∈ wsX11_allGo := fun w h => (List.mem_cons_of_mem _ (List.mem_append_right _ h))
set_option maxHeartbeats 4000000 in
set_option maxRecDepth 100000 in
theorem br_allGo_89 {l : Launch} {dC : Nat → ClassId} {dI : Nat → Nat → Nat} {cB cI cJ cZ cS : ClassId} {h : Nat} {a : Nat → Nat} {as : List Value} {r : Int32} {s' : RS} {k22 : RS → Int32 → Int32 → Int32 → Option (Int32 × RS)} (hk22 : ∀ (s : RS) (x1 : Int32) (x2 : Int32) (x3 : Int32), k22 s x1 x2 x3 = some (r, s') → BlkI l yX11_allGo wsX11_allGo ({ frames := 7, cells := 0, slots := 0, locals := 161 }) cX11_allGo 5 (some .int) (dC, dI) (tysA cB cI cJ cZ cS) as 22 (mwS cB cI cJ cZ h a s) [(0, .ref h), (1, .int x1), (2, .int x2), (3, .int x3)] [] (fun x u => x = r ∧ u = (mwS cB cI cJ cZ h a s'))) (s : RS) (x1 : Int32) (x2 : Int32) (x3 : Int32) (hB : r_allGo_89 k22 s x1 x2 x3 = some (r, s')) : BlkI l yX11_allGo wsX11_allGo ({ frames := 7, cells := 0, slots := 0, locals := 161 }) cX11_allGo 5 (some .int) (dC, dI) (tysA cB cI cJ cZ cS) as 89 (mwS cB cI cJ cZ h a s) [(0, .ref h), (1, .int x1), (2, .int x2), (3, .int x3)] [] (fun x u => x = r ∧ u = (mwS cB cI cJ cZ h a s')) := by
  intro p e s0 m below meth c A E H locs ls hP hD hS hl
  obtain ⟨C, hr, hlocks, hA, hK, hN⟩ := id E
  obtain ⟨hx, hb, hml, hown, hts⟩ := id C
  unfold r_allGo_89 at hB
  refine lv_iinc (v := (x3 + 1)) (lv' := [(3, .int (x3 + 1)), (0, .ref h), (1, .int x1), (2, .int x2)]) hx hb dX11_allGo_89 hl (k := 3) rfl (rfl) (by decide) rfl (fun ls hl => ?_)
  refine lv_goto (tgt := 22) hx hb dX11_allGo_92 (by decide) ?_
  exact hk22 _ _ _ _ hB p e s0 m below meth c A E H locs ls hP hD hS (lv_sub hl [1, 2, 3, 0] rfl)
set_option maxHeartbeats 4000000 in
set_option maxRecDepth 100000 in
theorem br_allGo_73 {l : Launch} {dC : Nat → ClassId} {dI : Nat → Nat → Nat} {cB cI cJ cZ cS : ClassId} {h : Nat} {a : Nat → Nat} {as : List Value} {r : Int32} {s' : RS} {k22 : RS → Int32 → Int32 → Int32 → Option (Int32 × RS)} (hk22 : ∀ (s : RS) (x1 : Int32) (x2 : Int32) (x3 : Int32), k22 s x1 x2 x3 = some (r, s') → BlkI l yX11_allGo wsX11_allGo ({ frames := 7, cells := 0, slots := 0, locals := 161 }) cX11_allGo 5 (some .int) (dC, dI) (tysA cB cI cJ cZ cS) as 22 (mwS cB cI cJ cZ h a s) [(0, .ref h), (1, .int x1), (2, .int x2), (3, .int x3)] [] (fun x u => x = r ∧ u = (mwS cB cI cJ cZ h a s'))) (s : RS) (x1 : Int32) (x2 : Int32) (x3 : Int32) (t0 : Int32) (hB : r_allGo_73 k22 s x1 x2 x3 t0 = some (r, s')) : BlkI l yX11_allGo wsX11_allGo ({ frames := 7, cells := 0, slots := 0, locals := 161 }) cX11_allGo 5 (some .int) (dC, dI) (tysA cB cI cJ cZ cS) as 73 (mwS cB cI cJ cZ h a s) [(0, .ref h), (1, .int x1), (2, .int x2), (3, .int x3)] [.int t0] (fun x u => x = r ∧ u = (mwS cB cI cJ cZ h a s')) := by
  intro p e s0 m below meth c A E H locs ls hP hD hS hl
  obtain ⟨C, hr, hlocks, hA, hK, hN⟩ := id E
  obtain ⟨hx, hb, hml, hown, hts⟩ := id C
  unfold r_allGo_73 at hB
  refine lv_istore (lv' := [(4, .int t0), (0, .ref h), (1, .int x1), (2, .int x2), (3, .int x3)]) hx hb dX11_allGo_73 hl (by decide) rfl (fun ls hl => ?_)
  refine lv_iload hx hb dX11_allGo_75 (lv_at hl 0 rfl) ?_
  refine lv_if_lt (tgt := 89) hx hb dX11_allGo_77 (by decide) (fun c1 => ?_) (fun c1 => ?_)
  · have hB := if_p hB c1
    exact br_allGo_89 (hk22) _ _ _ _ hB p e s0 m below meth c A E H locs ls hP hD hS (lv_sub hl [1, 2, 3, 4] rfl)
  · have hB := if_n hB c1
    refine lv_aload_n hx hb dX11_allGo_80 rfl (lv_at hl 1 rfl) ?_
    refine lv_iload_n hx hb dX11_allGo_81 rfl (lv_at hl 4 rfl) ?_
    refine lv_iload hx hb dX11_allGo_82 (lv_at hl 0 rfl) ?_
    refine lv_iload_n hx hb dX11_allGo_84 rfl (lv_at hl 3 rfl) ?_
    obtain ⟨q_, s2, hc, hB⟩ := bindI_inv hB
    refine q_goiF (va_runV (As := [.int x3, .int t0, .int x2]) (rest := []) C (cr_goesBy hc _) (cwV 3 hts gX11_allGo_X11_goesBy rfl rfl rfl (by decide +kernel) ⟨Nat.le_of_ble_eq_true rfl, Nat.le_of_ble_eq_true rfl⟩) (q_preV hK hP (ci := 11) (q0 := 0) rfl rfl rfl (q_preF hN hK hP hD)) rfl rfl hl.1 rfl (lv_room (Nat.le_of_ble_eq_true rfl)) dX11_allGo_85 ⟨Nat.le_of_ble_eq_true rfl, Nat.le_of_ble_eq_true rfl⟩) hD hS hA (fun r3 w1 H locs hw hP hD hS => ?_)
    obtain ⟨hq_, hw⟩ := hw; subst hw; subst hq_
    refine lv_pop hx hb dX11_allGo_88 rfl ?_
    exact br_allGo_89 (hk22) _ _ _ _ hB p e s0 m below meth c A E H locs ls hP hD hS (lv_sub hl [1, 2, 3, 4] rfl)
set_option maxHeartbeats 4000000 in
set_option maxRecDepth 100000 in
theorem br_allGo_71 {l : Launch} {dC : Nat → ClassId} {dI : Nat → Nat → Nat} {cB cI cJ cZ cS : ClassId} {h : Nat} {a : Nat → Nat} {as : List Value} {r : Int32} {s' : RS} {k22 : RS → Int32 → Int32 → Int32 → Option (Int32 × RS)} (hk22 : ∀ (s : RS) (x1 : Int32) (x2 : Int32) (x3 : Int32), k22 s x1 x2 x3 = some (r, s') → BlkI l yX11_allGo wsX11_allGo ({ frames := 7, cells := 0, slots := 0, locals := 161 }) cX11_allGo 5 (some .int) (dC, dI) (tysA cB cI cJ cZ cS) as 22 (mwS cB cI cJ cZ h a s) [(0, .ref h), (1, .int x1), (2, .int x2), (3, .int x3)] [] (fun x u => x = r ∧ u = (mwS cB cI cJ cZ h a s'))) (s : RS) (x1 : Int32) (x2 : Int32) (x3 : Int32) (hB : r_allGo_71 k22 s x1 x2 x3 = some (r, s')) : BlkI l yX11_allGo wsX11_allGo ({ frames := 7, cells := 0, slots := 0, locals := 161 }) cX11_allGo 5 (some .int) (dC, dI) (tysA cB cI cJ cZ cS) as 71 (mwS cB cI cJ cZ h a s) [(0, .ref h), (1, .int x1), (2, .int x2), (3, .int x3)] [] (fun x u => x = r ∧ u = (mwS cB cI cJ cZ h a s')) := by
  intro p e s0 m below meth c A E H locs ls hP hD hS hl
  obtain ⟨C, hr, hlocks, hA, hK, hN⟩ := id E
  obtain ⟨hx, hb, hml, hown, hts⟩ := id C
  unfold r_allGo_71 at hB
  refine lv_bipush (v := (-2)) hx hb dX11_allGo_71 (by decide) ?_
  exact br_allGo_73 (hk22) _ _ _ _ _ hB p e s0 m below meth c A E H locs ls hP hD hS (lv_sub hl [0, 1, 2, 3] rfl)
set_option maxHeartbeats 4000000 in
set_option maxRecDepth 100000 in
theorem br_allGo_22 {l : Launch} {dC : Nat → ClassId} {dI : Nat → Nat → Nat} {cB cI cJ cZ cS : ClassId} {h : Nat} {a : Nat → Nat} {as : List Value} {r : Int32} {s' : RS} {k22 : RS → Int32 → Int32 → Int32 → Option (Int32 × RS)} (hk22 : ∀ (s : RS) (x1 : Int32) (x2 : Int32) (x3 : Int32), k22 s x1 x2 x3 = some (r, s') → BlkI l yX11_allGo wsX11_allGo ({ frames := 7, cells := 0, slots := 0, locals := 161 }) cX11_allGo 5 (some .int) (dC, dI) (tysA cB cI cJ cZ cS) as 22 (mwS cB cI cJ cZ h a s) [(0, .ref h), (1, .int x1), (2, .int x2), (3, .int x3)] [] (fun x u => x = r ∧ u = (mwS cB cI cJ cZ h a s'))) (s : RS) (x1 : Int32) (x2 : Int32) (x3 : Int32) (hB : r_allGo_22 k22 s x1 x2 x3 = some (r, s')) : BlkI l yX11_allGo wsX11_allGo ({ frames := 7, cells := 0, slots := 0, locals := 161 }) cX11_allGo 5 (some .int) (dC, dI) (tysA cB cI cJ cZ cS) as 22 (mwS cB cI cJ cZ h a s) [(0, .ref h), (1, .int x1), (2, .int x2), (3, .int x3)] [] (fun x u => x = r ∧ u = (mwS cB cI cJ cZ h a s')) := by
  intro p e s0 m below meth c A E H locs ls hP hD hS hl
  obtain ⟨C, hr, hlocks, hA, hK, hN⟩ := id E
  obtain ⟨hx, hb, hml, hown, hts⟩ := id C
  unfold r_allGo_22 at hB
  refine lv_iload_n hx hb dX11_allGo_22 rfl (lv_at hl 3 rfl) ?_
  refine lv_aload_n hx hb dX11_allGo_23 rfl (lv_at hl 0 rfl) ?_
  refine q_get (v := .ref (a 23)) C inX11_allGo_X11 hK hP 0 rfl rfl 23 (by decide) rfl LX11_allGo_49 rfl dX11_allGo_24 ?_
  refine lv_aload_n hx hb dX11_allGo_27 rfl (lv_at hl 0 rfl) ?_
  refine q_get (v := .int (s.v 18)) C inX11_allGo_X11 hK hP 0 rfl rfl 18 (by decide) rfl LX11_allGo_215 rfl dX11_allGo_28 ?_
  obtain ⟨g1, hB⟩ := guard_inv hB
  refine q_iald (x := (s.f 23 (Int32.toNatClampNeg (s.v 18)))) C hK hP 11 1 rfl rfl (vpb_in g1) dX11_allGo_31 rfl ?_
  refine lv_icmp_ge (tgt := 95) hx hb dX11_allGo_32 (by decide) (fun c2 => ?_) (fun c2 => ?_)
  · have hB := if_p hB c2
    refine lv_iload_n hx hb dX11_allGo_95 rfl (lv_at hl 1 rfl) ?_
    refine lv_if_ne (tgt := 107) hx hb dX11_allGo_96 (by decide) (fun c3 => ?_) (fun c3 => ?_)
    · have hB := if_n hB c3
      refine lv_iload_n hx hb dX11_allGo_107 rfl (lv_at hl 1 rfl) ?_
      refine lv_iconst (v := 1) hx hb dX11_allGo_108 (by decide) ?_
      refine lv_icmp_ne (tgt := 120) hx hb dX11_allGo_109 (by decide) (fun c4 => ?_) (fun c4 => ?_)
      · have hB := if_n hB c4
        refine lv_aload_n hx hb dX11_allGo_120 rfl (lv_at hl 0 rfl) ?_
        refine q_get (v := .ref (a 44)) C inX11_allGo_X11 hK hP 0 rfl rfl 44 (by decide) rfl LX11_allGo_101 rfl dX11_allGo_121 ?_
        refine lv_bipush (v := 28) hx hb dX11_allGo_124 (by decide) ?_
        refine q_iald (x := (s.f 44 28)) C hK hP 28 1 rfl rfl (vp_lit (by decide +kernel)) dX11_allGo_126 rfl ?_
        refine lv_aload_n hx hb dX11_allGo_127 rfl (lv_at hl 0 rfl) ?_
        refine q_get (v := .ref (a 43)) C inX11_allGo_X11 hK hP 0 rfl rfl 43 (by decide) rfl LX11_allGo_98 rfl dX11_allGo_128 ?_
        refine lv_bipush (v := 28) hx hb dX11_allGo_131 (by decide) ?_
        refine q_iald (x := (s.f 43 28)) C hK hP 27 1 rfl rfl (vp_lit (by decide +kernel)) dX11_allGo_133 rfl ?_
        refine lv_isub hx hb dX11_allGo_134 ?_
        exact q_iret C hr hlocks hK hP hD hS (Nat.le_of_ble_eq_true rfl) (Nat.le_of_ble_eq_true rfl) dX11_allGo_135 (by cases hB; exact ⟨rfl, rfl⟩)
      · have hB := if_p hB c4
        refine lv_aload_n hx hb dX11_allGo_112 rfl (lv_at hl 0 rfl) ?_
        refine lv_iconst (v := 1) hx hb dX11_allGo_113 (by decide) ?_
        obtain ⟨q_, s5, hc, hB⟩ := bindI_inv hB
        refine q_goiF (va_runV (As := [.int 1]) (rest := []) C (cr_manyIn hc _) (cwV 1 hts gX11_allGo_X11_manyIn rfl rfl rfl (by decide +kernel) ⟨Nat.le_of_ble_eq_true rfl, Nat.le_of_ble_eq_true rfl⟩) (q_preV hK hP (ci := 11) (q0 := 0) rfl rfl rfl (q_preF hN hK hP hD)) rfl rfl hl.1 rfl (lv_room (Nat.le_of_ble_eq_true rfl)) dX11_allGo_114 ⟨Nat.le_of_ble_eq_true rfl, Nat.le_of_ble_eq_true rfl⟩) hD hS hA (fun r6 w1 H locs hw hP hD hS => ?_)
        obtain ⟨hq_, hw⟩ := hw; subst hw; subst hq_
        refine lv_goto (tgt := 135) hx hb dX11_allGo_117 (by decide) ?_
        exact q_iret C hr hlocks hK hP hD hS (Nat.le_of_ble_eq_true rfl) (Nat.le_of_ble_eq_true rfl) dX11_allGo_135 (by cases hB; exact ⟨rfl, rfl⟩)
    · have hB := if_p hB c3
      refine lv_aload_n hx hb dX11_allGo_99 rfl (lv_at hl 0 rfl) ?_
      refine lv_iconst (v := 2) hx hb dX11_allGo_100 (by decide) ?_
      obtain ⟨q_, s7, hc, hB⟩ := bindI_inv hB
      refine q_goiF (va_runV (As := [.int 2]) (rest := []) C (cr_manyIn hc _) (cwV 1 hts gX11_allGo_X11_manyIn rfl rfl rfl (by decide +kernel) ⟨Nat.le_of_ble_eq_true rfl, Nat.le_of_ble_eq_true rfl⟩) (q_preV hK hP (ci := 11) (q0 := 0) rfl rfl rfl (q_preF hN hK hP hD)) rfl rfl hl.1 rfl (lv_room (Nat.le_of_ble_eq_true rfl)) dX11_allGo_101 ⟨Nat.le_of_ble_eq_true rfl, Nat.le_of_ble_eq_true rfl⟩) hD hS hA (fun r8 w1 H locs hw hP hD hS => ?_)
      obtain ⟨hq_, hw⟩ := hw; subst hw; subst hq_
      refine lv_goto (tgt := 135) hx hb dX11_allGo_104 (by decide) ?_
      exact q_iret C hr hlocks hK hP hD hS (Nat.le_of_ble_eq_true rfl) (Nat.le_of_ble_eq_true rfl) dX11_allGo_135 (by cases hB; exact ⟨rfl, rfl⟩)
  · have hB := if_n hB c2
    refine lv_aload_n hx hb dX11_allGo_35 rfl (lv_at hl 0 rfl) ?_
    refine lv_iload_n hx hb dX11_allGo_36 rfl (lv_at hl 3 rfl) ?_
    obtain ⟨q_, s9, hc, hB⟩ := bindI_inv hB
    refine q_goiF (va_runV (As := [.int x3]) (rest := []) C (cr_isHere hc _) (cwV 1 hts gX11_allGo_X11_isHere rfl rfl rfl (by decide +kernel) ⟨Nat.le_of_ble_eq_true rfl, Nat.le_of_ble_eq_true rfl⟩) (q_preV hK hP (ci := 11) (q0 := 0) rfl rfl rfl (q_preF hN hK hP hD)) rfl rfl hl.1 rfl (lv_room (Nat.le_of_ble_eq_true rfl)) dX11_allGo_37 ⟨Nat.le_of_ble_eq_true rfl, Nat.le_of_ble_eq_true rfl⟩) hD hS hA (fun r10 w1 H locs hw hP hD hS => ?_)
    obtain ⟨hq_, hw⟩ := hw; subst hw; subst hq_
    refine lv_if_eq (tgt := 71) hx hb dX11_allGo_40 (by decide) (fun c11 => ?_) (fun c11 => ?_)
    · have hB := if_p hB c11
      exact br_allGo_71 (hk22) _ _ _ _ hB p e s0 m below meth c A E H locs ls hP hD hS (lv_sub hl [0, 1, 2, 3] rfl)
    · have hB := if_n hB c11
      refine lv_aload_n hx hb dX11_allGo_43 rfl (lv_at hl 0 rfl) ?_
      refine lv_iload_n hx hb dX11_allGo_44 rfl (lv_at hl 3 rfl) ?_
      obtain ⟨q_, s12, hc, hB⟩ := bindI_inv hB
      refine q_goiF (va_runV (As := [.int x3]) (rest := []) C (cr_doesDare hc _) (cwV 1 hts gX11_allGo_X11_doesDare rfl rfl rfl (by decide +kernel) ⟨Nat.le_of_ble_eq_true rfl, Nat.le_of_ble_eq_true rfl⟩) (q_preV hK hP (ci := 11) (q0 := 0) rfl rfl rfl (q_preF hN hK hP hD)) rfl rfl hl.1 rfl (lv_room (Nat.le_of_ble_eq_true rfl)) dX11_allGo_45 ⟨Nat.le_of_ble_eq_true rfl, Nat.le_of_ble_eq_true rfl⟩) hD hS hA (fun r13 w1 H locs hw hP hD hS => ?_)
      obtain ⟨hq_, hw⟩ := hw; subst hw; subst hq_
      refine lv_if_eq (tgt := 71) hx hb dX11_allGo_48 (by decide) (fun c14 => ?_) (fun c14 => ?_)
      · have hB := if_p hB c14
        exact br_allGo_71 (hk22) _ _ _ _ hB p e s0 m below meth c A E H locs ls hP hD hS (lv_sub hl [0, 1, 2, 3] rfl)
      · have hB := if_n hB c14
        refine lv_aload_n hx hb dX11_allGo_51 rfl (lv_at hl 0 rfl) ?_
        refine q_get (v := .ref (a 20)) C inX11_allGo_X11 hK hP 0 rfl rfl 20 (by decide) rfl LX11_allGo_40 rfl dX11_allGo_52 ?_
        refine lv_aload_n hx hb dX11_allGo_55 rfl (lv_at hl 0 rfl) ?_
        refine q_get (v := .int (s12.v 18)) C inX11_allGo_X11 hK hP 0 rfl rfl 18 (by decide) rfl LX11_allGo_215 rfl dX11_allGo_56 ?_
        obtain ⟨g15, hB⟩ := guard_inv hB
        refine q_iald (x := (s12.f 20 (Int32.toNatClampNeg (s12.v 18)))) C hK hP 8 1 rfl rfl (vpb_in g15) dX11_allGo_59 rfl ?_
        refine lv_if_le (tgt := 71) hx hb dX11_allGo_60 (by decide) (fun c16 => ?_) (fun c16 => ?_)
        · have hB := if_p hB c16
          exact br_allGo_71 (hk22) _ _ _ _ hB p e s0 m below meth c A E H locs ls hP hD hS (lv_sub hl [0, 1, 2, 3] rfl)
        · have hB := if_n hB c16
          refine lv_aload_n hx hb dX11_allGo_63 rfl (lv_at hl 0 rfl) ?_
          refine lv_iload_n hx hb dX11_allGo_64 rfl (lv_at hl 3 rfl) ?_
          obtain ⟨q_, s17, hc, hB⟩ := bindI_inv hB
          refine q_goiF (va_runV (As := [.int x3]) (rest := []) C (cr_bestFor hc _) (cwV 1 hts gX11_allGo_X11_bestFor rfl rfl rfl (by decide +kernel) ⟨Nat.le_of_ble_eq_true rfl, Nat.le_of_ble_eq_true rfl⟩) (q_preV hK hP (ci := 11) (q0 := 0) rfl rfl rfl (q_preF hN hK hP hD)) rfl rfl hl.1 rfl (lv_room (Nat.le_of_ble_eq_true rfl)) dX11_allGo_65 ⟨Nat.le_of_ble_eq_true rfl, Nat.le_of_ble_eq_true rfl⟩) hD hS hA (fun r18 w1 H locs hw hP hD hS => ?_)
          obtain ⟨hq_, hw⟩ := hw; subst hw; subst hq_
          refine lv_goto (tgt := 73) hx hb dX11_allGo_68 (by decide) ?_
          exact br_allGo_73 (hk22) _ _ _ _ _ hB p e s0 m below meth c A E H locs ls hP hD hS (lv_sub hl [0, 1, 2, 3] rfl)
theorem br_allGo_22L {l : Launch} {dC : Nat → ClassId} {dI : Nat → Nat → Nat} {cB cI cJ cZ cS : ClassId} {h : Nat} {a : Nat → Nat} {as : List Value} {r : Int32} {s' : RS} : ∀ (n : Nat) (s : RS) (x1 : Int32) (x2 : Int32) (x3 : Int32), r_allGo_22L n s x1 x2 x3 = some (r, s') → BlkI l yX11_allGo wsX11_allGo ({ frames := 7, cells := 0, slots := 0, locals := 161 }) cX11_allGo 5 (some .int) (dC, dI) (tysA cB cI cJ cZ cS) as 22 (mwS cB cI cJ cZ h a s) [(0, .ref h), (1, .int x1), (2, .int x2), (3, .int x3)] [] (fun x u => x = r ∧ u = (mwS cB cI cJ cZ h a s')) := by
  intro n
  induction n with
  | zero => intro s x1 x2 x3 hB; exact none_ne hB
  | succ n ih => intro s x1 x2 x3 hB; exact br_allGo_22 ih _ _ _ _ hB
set_option maxHeartbeats 4000000 in
set_option maxRecDepth 100000 in
theorem br_allGo {l : Launch} {dC : Nat → ClassId} {dI : Nat → Nat → Nat} {cB cI cJ cZ cS : ClassId} {h : Nat} {a : Nat → Nat} {as : List Value} {r : Int32} {s' : RS} (s : RS) (x1 : Int32) (hB : r_allGo s x1 = some (r, s')) : BlkI l yX11_allGo wsX11_allGo ({ frames := 7, cells := 0, slots := 0, locals := 161 }) cX11_allGo 5 (some .int) (dC, dI) (tysA cB cI cJ cZ cS) as 0 (mwS cB cI cJ cZ h a s) [(0, .ref h), (1, .int x1)] [] (fun x u => x = r ∧ u = (mwS cB cI cJ cZ h a s')) := by
  intro p e s0 m below meth c A E H locs ls hP hD hS hl
  obtain ⟨C, hr, hlocks, hA, hK, hN⟩ := id E
  obtain ⟨hx, hb, hml, hown, hts⟩ := id C
  unfold r_allGo at hB
  refine lv_iload_n hx hb dX11_allGo_0 rfl (lv_at hl 1 rfl) ?_
  refine lv_iconst (v := 0) hx hb dX11_allGo_1 (by decide) ?_
  refine lv_iconst (v := 2) hx hb dX11_allGo_2 (by decide) ?_
  obtain ⟨q_, hc, hB⟩ := bindP_inv hB
  refine q_goi0 (va_runS (As := [.int x1, .int 0, .int 2]) (rest := []) C (cr_in hc _) (va_cwS 3 hts gX11_allGo_X11_in rfl rfl rfl (by decide +kernel) ⟨Nat.le_of_ble_eq_true rfl, Nat.le_of_ble_eq_true rfl⟩) (q_pre0 hN hK) rfl rfl hl.1 rfl (lv_room (Nat.le_of_ble_eq_true rfl)) dX11_allGo_3 ⟨Nat.le_of_ble_eq_true rfl, Nat.le_of_ble_eq_true rfl⟩) hP hD hS hA (fun r1 w1 H locs hw hP hS => ?_)
  subst hw
  refine lv_if_ne (tgt := 11) hx hb dX11_allGo_6 (by decide) (fun c2 => ?_) (fun c2 => ?_)
  · have hB := if_n hB c2
    refine lv_aload_n hx hb dX11_allGo_11 rfl (lv_at hl 0 rfl) ?_
    obtain ⟨s3, hc, hB⟩ := bindP_inv hB
    refine q_govF (va_runV (As := []) (rest := []) C (cr_copies hc _) (cwV 0 hts gX11_allGo_X11_copies rfl rfl rfl (by decide +kernel) ⟨Nat.le_of_ble_eq_true rfl, Nat.le_of_ble_eq_true rfl⟩) (q_preV hK hP (ci := 11) (q0 := 0) rfl rfl rfl (q_preF hN hK hP hD)) rfl rfl hl.1 rfl (lv_room (Nat.le_of_ble_eq_true rfl)) dX11_allGo_12 ⟨Nat.le_of_ble_eq_true rfl, Nat.le_of_ble_eq_true rfl⟩) hD hS hA (fun w1 H locs hw hP hD hS => ?_)
    subst hw
    refine lv_aload_n hx hb dX11_allGo_15 rfl (lv_at hl 0 rfl) ?_
    obtain ⟨q_, s4, hc, hB⟩ := bindI_inv hB
    refine q_goiF (va_runV (As := []) (rest := []) C (cr_thereNumber hc _) (cwV 0 hts gX11_allGo_X11_thereNumber rfl rfl rfl (by decide +kernel) ⟨Nat.le_of_ble_eq_true rfl, Nat.le_of_ble_eq_true rfl⟩) (q_preV hK hP (ci := 11) (q0 := 0) rfl rfl rfl (q_preF hN hK hP hD)) rfl rfl hl.1 rfl (lv_room (Nat.le_of_ble_eq_true rfl)) dX11_allGo_16 ⟨Nat.le_of_ble_eq_true rfl, Nat.le_of_ble_eq_true rfl⟩) hD hS hA (fun r5 w1 H locs hw hP hD hS => ?_)
    obtain ⟨hq_, hw⟩ := hw; subst hw; subst hq_
    refine lv_istore_n (lv' := [(2, .int r5), (0, .ref h), (1, .int x1)]) hx hb dX11_allGo_19 rfl hl (by decide) rfl (fun ls hl => ?_)
    refine lv_iconst (v := 0) hx hb dX11_allGo_20 (by decide) ?_
    refine lv_istore_n (lv' := [(3, .int 0), (2, .int r5), (0, .ref h), (1, .int x1)]) hx hb dX11_allGo_21 rfl hl (by decide) rfl (fun ls hl => ?_)
    exact br_allGo_22L fu _ _ _ _ hB p e s0 m below meth c A E H locs ls hP hD hS (lv_sub hl [2, 3, 1, 0] rfl)
  · have hB := if_p hB c2
    refine lv_iconst (v := (-1)) hx hb dX11_allGo_9 (by decide) ?_
    exact q_iret C hr hlocks hK hP hD hS (Nat.le_of_ble_eq_true rfl) (Nat.le_of_ble_eq_true rfl) dX11_allGo_10 (by cases hB; exact ⟨rfl, rfl⟩)
theorem cr_allGo {l : Launch} {dC : Nat → ClassId} {dI : Nat → Nat → Nat} {cB cI cJ cZ cS : ClassId} {h : Nat} {a : Nat → Nat} {r : Int32} {s' : RS} {s : RS} {x1 : Int32} (hB : r_allGo s x1 = some (r, s')) : CI l yX11_allGo wsX11_allGo ({ frames := 7, cells := 0, slots := 0, locals := 161 }) (dC, dI) (tysA cB cI cJ cZ cS) (mwS cB cI cJ cZ h a s) [.ref h, .int x1] (fun x u => x = r ∧ u = (mwS cB cI cJ cZ h a s')) :=
  CI_of (cc := cX11_allGo) (maxL := 5) (ret := (some .int)) (by decide) rfl (Nat.le_of_ble_eq_true rfl) (br_allGo _ _ hB)
theorem LX11_darers_215 : Cond.fieldLink RX11 215 "GuessFerryModel" "live" "I" ∈ wsX11_darers := (List.mem_cons_of_mem _ (List.mem_append_left _ (List.mem_append_left _ (List.mem_of_getElem? (i := 1) rfl))))
theorem LX11_darers_49 : Cond.fieldLink RX11 49 "GuessFerryModel" "parties" "[I" ∈ wsX11_darers := (List.mem_cons_of_mem _ (List.mem_append_left _ (List.mem_append_left _ (List.mem_of_getElem? (i := 0) rfl))))
theorem inX11_darers_X11 : ∀ w ∈ u_ws RX11 TX11 58, w ∈ wsX11_darers := fun w h => (List.mem_cons_of_mem _ (List.mem_append_right _ h))
set_option maxHeartbeats 4000000 in
set_option maxRecDepth 100000 in
theorem br_darers_43 {l : Launch} {dC : Nat → ClassId} {dI : Nat → Nat → Nat} {cB cI cJ cZ cS : ClassId} {h : Nat} {a : Nat → Nat} {as : List Value} {r : Int32} {s' : RS} {k8 : RS → Int32 → Int32 → Option (Int32 × RS)} (hk8 : ∀ (s : RS) (x1 : Int32) (x2 : Int32), k8 s x1 x2 = some (r, s') → BlkI l yX11_darers wsX11_darers ({ frames := 3, cells := 0, slots := 0, locals := 74 }) cX11_darers 3 (some .int) (dC, dI) (tysA cB cI cJ cZ cS) as 8 (mwS cB cI cJ cZ h a s) [(0, .ref h), (1, .int x1), (2, .int x2)] [] (fun x u => x = r ∧ u = (mwS cB cI cJ cZ h a s'))) (s : RS) (x1 : Int32) (x2 : Int32) (hB : r_darers_43 k8 s x1 x2 = some (r, s')) : BlkI l yX11_darers wsX11_darers ({ frames := 3, cells := 0, slots := 0, locals := 74 }) cX11_darers 3 (some .int) (dC, dI) (tysA cB cI cJ cZ cS) as 43 (mwS cB cI cJ cZ h a s) [(0, .ref h), (1, .int x1), (2, .int x2)] [] (fun x u => x = r ∧ u = (mwS cB cI cJ cZ h a s')) := by
  intro p e s0 m below meth c A E H locs ls hP hD hS hl
  obtain ⟨C, hr, hlocks, hA, hK, hN⟩ := id E
  obtain ⟨hx, hb, hml, hown, hts⟩ := id C
  unfold r_darers_43 at hB
  refine lv_iinc (v := (x2 + 1)) (lv' := [(2, .int (x2 + 1)), (0, .ref h), (1, .int x1)]) hx hb dX11_darers_43 hl (k := 2) rfl (rfl) (by decide) rfl (fun ls hl => ?_)
  refine lv_goto (tgt := 8) hx hb dX11_darers_46 (by decide) ?_
  exact hk8 _ _ _ hB p e s0 m below meth c A E H locs ls hP hD hS (lv_sub hl [1, 2, 0] rfl)
set_option maxHeartbeats 4000000 in
set_option maxRecDepth 100000 in
theorem br_darers_8 {l : Launch} {dC : Nat → ClassId} {dI : Nat → Nat → Nat} {cB cI cJ cZ cS : ClassId} {h : Nat} {a : Nat → Nat} {as : List Value} {r : Int32} {s' : RS} {k8 : RS → Int32 → Int32 → Option (Int32 × RS)} (hk8 : ∀ (s : RS) (x1 : Int32) (x2 : Int32), k8 s x1 x2 = some (r, s') → BlkI l yX11_darers wsX11_darers ({ frames := 3, cells := 0, slots := 0, locals := 74 }) cX11_darers 3 (some .int) (dC, dI) (tysA cB cI cJ cZ cS) as 8 (mwS cB cI cJ cZ h a s) [(0, .ref h), (1, .int x1), (2, .int x2)] [] (fun x u => x = r ∧ u = (mwS cB cI cJ cZ h a s'))) (s : RS) (x1 : Int32) (x2 : Int32) (hB : r_darers_8 k8 s x1 x2 = some (r, s')) : BlkI l yX11_darers wsX11_darers ({ frames := 3, cells := 0, slots := 0, locals := 74 }) cX11_darers 3 (some .int) (dC, dI) (tysA cB cI cJ cZ cS) as 8 (mwS cB cI cJ cZ h a s) [(0, .ref h), (1, .int x1), (2, .int x2)] [] (fun x u => x = r ∧ u = (mwS cB cI cJ cZ h a s')) := by
  intro p e s0 m below meth c A E H locs ls hP hD hS hl
  obtain ⟨C, hr, hlocks, hA, hK, hN⟩ := id E
  obtain ⟨hx, hb, hml, hown, hts⟩ := id C
  unfold r_darers_8 at hB
  refine lv_iload_n hx hb dX11_darers_8 rfl (lv_at hl 2 rfl) ?_
  refine lv_aload_n hx hb dX11_darers_9 rfl (lv_at hl 0 rfl) ?_
  refine q_get (v := .ref (a 23)) C inX11_darers_X11 hK hP 0 rfl rfl 23 (by decide) rfl LX11_darers_49 rfl dX11_darers_10 ?_
  refine lv_aload_n hx hb dX11_darers_13 rfl (lv_at hl 0 rfl) ?_
  refine q_get (v := .int (s.v 18)) C inX11_darers_X11 hK hP 0 rfl rfl 18 (by decide) rfl LX11_darers_215 rfl dX11_darers_14 ?_
  obtain ⟨g1, hB⟩ := guard_inv hB
  refine q_iald (x := (s.f 23 (Int32.toNatClampNeg (s.v 18)))) C hK hP 11 1 rfl rfl (vpb_in g1) dX11_darers_17 rfl ?_
  refine lv_icmp_ge (tgt := 49) hx hb dX11_darers_18 (by decide) (fun c2 => ?_) (fun c2 => ?_)
  · have hB := if_p hB c2
    refine lv_iload_n hx hb dX11_darers_49 rfl (lv_at hl 1 rfl) ?_
    exact q_iret C hr hlocks hK hP hD hS (Nat.le_of_ble_eq_true rfl) (Nat.le_of_ble_eq_true rfl) dX11_darers_50 (by cases hB; exact ⟨rfl, rfl⟩)
  · have hB := if_n hB c2
    refine lv_aload_n hx hb dX11_darers_21 rfl (lv_at hl 0 rfl) ?_
    refine lv_iload_n hx hb dX11_darers_22 rfl (lv_at hl 2 rfl) ?_
    obtain ⟨q_, s3, hc, hB⟩ := bindI_inv hB
    refine q_goiF (va_runV (As := [.int x2]) (rest := []) C (cr_isHere hc _) (cwV 1 hts gX11_darers_X11_isHere rfl rfl rfl (by decide +kernel) ⟨Nat.le_of_ble_eq_true rfl, Nat.le_of_ble_eq_true rfl⟩) (q_preV hK hP (ci := 11) (q0 := 0) rfl rfl rfl (q_preF hN hK hP hD)) rfl rfl hl.1 rfl (lv_room (Nat.le_of_ble_eq_true rfl)) dX11_darers_23 ⟨Nat.le_of_ble_eq_true rfl, Nat.le_of_ble_eq_true rfl⟩) hD hS hA (fun r4 w1 H locs hw hP hD hS => ?_)
    obtain ⟨hq_, hw⟩ := hw; subst hw; subst hq_
    refine lv_if_eq (tgt := 43) hx hb dX11_darers_26 (by decide) (fun c5 => ?_) (fun c5 => ?_)
    · have hB := if_p hB c5
      exact br_darers_43 (hk8) _ _ _ hB p e s0 m below meth c A E H locs ls hP hD hS (lv_sub hl [0, 1, 2] rfl)
    · have hB := if_n hB c5
      refine lv_aload_n hx hb dX11_darers_29 rfl (lv_at hl 0 rfl) ?_
      refine lv_iload_n hx hb dX11_darers_30 rfl (lv_at hl 2 rfl) ?_
      obtain ⟨q_, s6, hc, hB⟩ := bindI_inv hB
      refine q_goiF (va_runV (As := [.int x2]) (rest := []) C (cr_doesDare hc _) (cwV 1 hts gX11_darers_X11_doesDare rfl rfl rfl (by decide +kernel) ⟨Nat.le_of_ble_eq_true rfl, Nat.le_of_ble_eq_true rfl⟩) (q_preV hK hP (ci := 11) (q0 := 0) rfl rfl rfl (q_preF hN hK hP hD)) rfl rfl hl.1 rfl (lv_room (Nat.le_of_ble_eq_true rfl)) dX11_darers_31 ⟨Nat.le_of_ble_eq_true rfl, Nat.le_of_ble_eq_true rfl⟩) hD hS hA (fun r7 w1 H locs hw hP hD hS => ?_)
      obtain ⟨hq_, hw⟩ := hw; subst hw; subst hq_
      refine lv_if_eq (tgt := 43) hx hb dX11_darers_34 (by decide) (fun c8 => ?_) (fun c8 => ?_)
      · have hB := if_p hB c8
        exact br_darers_43 (hk8) _ _ _ hB p e s0 m below meth c A E H locs ls hP hD hS (lv_sub hl [0, 1, 2] rfl)
      · have hB := if_n hB c8
        refine lv_iload_n hx hb dX11_darers_37 rfl (lv_at hl 1 rfl) ?_
        refine lv_iconst (v := 1) hx hb dX11_darers_38 (by decide) ?_
        refine lv_iload_n hx hb dX11_darers_39 rfl (lv_at hl 2 rfl) ?_
        refine lv_ishl hx hb dX11_darers_40 ?_
        refine lv_ior hx hb dX11_darers_41 ?_
        refine lv_istore_n (lv' := [(1, .int (x1 ||| (1 <<< (x2 &&& 31)))), (0, .ref h), (2, .int x2)]) hx hb dX11_darers_42 rfl hl (by decide) rfl (fun ls hl => ?_)
        exact br_darers_43 (hk8) _ _ _ hB p e s0 m below meth c A E H locs ls hP hD hS (lv_sub hl [1, 0, 2] rfl)
theorem br_darers_8L {l : Launch} {dC : Nat → ClassId} {dI : Nat → Nat → Nat} {cB cI cJ cZ cS : ClassId} {h : Nat} {a : Nat → Nat} {as : List Value} {r : Int32} {s' : RS} : ∀ (n : Nat) (s : RS) (x1 : Int32) (x2 : Int32), r_darers_8L n s x1 x2 = some (r, s') → BlkI l yX11_darers wsX11_darers ({ frames := 3, cells := 0, slots := 0, locals := 74 }) cX11_darers 3 (some .int) (dC, dI) (tysA cB cI cJ cZ cS) as 8 (mwS cB cI cJ cZ h a s) [(0, .ref h), (1, .int x1), (2, .int x2)] [] (fun x u => x = r ∧ u = (mwS cB cI cJ cZ h a s')) := by
  intro n
  induction n with
  | zero => intro s x1 x2 hB; exact none_ne hB
  | succ n ih => intro s x1 x2 hB; exact br_darers_8 ih _ _ _ hB
set_option maxHeartbeats 4000000 in
set_option maxRecDepth 100000 in
theorem br_darers {l : Launch} {dC : Nat → ClassId} {dI : Nat → Nat → Nat} {cB cI cJ cZ cS : ClassId} {h : Nat} {a : Nat → Nat} {as : List Value} {r : Int32} {s' : RS} (s : RS) (hB : r_darers s = some (r, s')) : BlkI l yX11_darers wsX11_darers ({ frames := 3, cells := 0, slots := 0, locals := 74 }) cX11_darers 3 (some .int) (dC, dI) (tysA cB cI cJ cZ cS) as 0 (mwS cB cI cJ cZ h a s) [(0, .ref h)] [] (fun x u => x = r ∧ u = (mwS cB cI cJ cZ h a s')) := by
  intro p e s0 m below meth c A E H locs ls hP hD hS hl
  obtain ⟨C, hr, hlocks, hA, hK, hN⟩ := id E
  obtain ⟨hx, hb, hml, hown, hts⟩ := id C
  unfold r_darers at hB
  refine lv_aload_n hx hb dX11_darers_0 rfl (lv_at hl 0 rfl) ?_
  obtain ⟨s1, hc, hB⟩ := bindP_inv hB
  refine q_govF (va_runV (As := []) (rest := []) C (cr_copies hc _) (cwV 0 hts gX11_darers_X11_copies rfl rfl rfl (by decide +kernel) ⟨Nat.le_of_ble_eq_true rfl, Nat.le_of_ble_eq_true rfl⟩) (q_preV hK hP (ci := 11) (q0 := 0) rfl rfl rfl (q_preF hN hK hP hD)) rfl rfl hl.1 rfl (lv_room (Nat.le_of_ble_eq_true rfl)) dX11_darers_1 ⟨Nat.le_of_ble_eq_true rfl, Nat.le_of_ble_eq_true rfl⟩) hD hS hA (fun w1 H locs hw hP hD hS => ?_)
  subst hw
  refine lv_iconst (v := 0) hx hb dX11_darers_4 (by decide) ?_
  refine lv_istore_n (lv' := [(1, .int 0), (0, .ref h)]) hx hb dX11_darers_5 rfl hl (by decide) rfl (fun ls hl => ?_)
  refine lv_iconst (v := 0) hx hb dX11_darers_6 (by decide) ?_
  refine lv_istore_n (lv' := [(2, .int 0), (1, .int 0), (0, .ref h)]) hx hb dX11_darers_7 rfl hl (by decide) rfl (fun ls hl => ?_)
  exact br_darers_8L fu _ _ _ hB p e s0 m below meth c A E H locs ls hP hD hS (lv_sub hl [2, 1, 0] rfl)
theorem cr_darers {l : Launch} {dC : Nat → ClassId} {dI : Nat → Nat → Nat} {cB cI cJ cZ cS : ClassId} {h : Nat} {a : Nat → Nat} {r : Int32} {s' : RS} {s : RS} (hB : r_darers s = some (r, s')) : CI l yX11_darers wsX11_darers ({ frames := 3, cells := 0, slots := 0, locals := 74 }) (dC, dI) (tysA cB cI cJ cZ cS) (mwS cB cI cJ cZ h a s) [.ref h] (fun x u => x = r ∧ u = (mwS cB cI cJ cZ h a s')) :=
  CI_of (cc := cX11_darers) (maxL := 3) (ret := (some .int)) (by decide) rfl (Nat.le_of_ble_eq_true rfl) (br_darers _ hB)
theorem LX11_open_215 : Cond.fieldLink RX11 215 "GuessFerryModel" "live" "I" ∈ wsX11_open := (List.mem_cons_of_mem _ (List.mem_append_left _ (List.mem_append_left _ (List.mem_of_getElem? (i := 1) rfl))))
theorem LX11_open_40 : Cond.fieldLink RX11 40 "GuessFerryModel" "waves" "[I" ∈ wsX11_open := (List.mem_cons_of_mem _ (List.mem_append_left _ (List.mem_append_left _ (List.mem_of_getElem? (i := 0) rfl))))
theorem inX11_open_X11 : ∀ w ∈ u_ws RX11 TX11 58, w ∈ wsX11_open := fun w h => (List.mem_cons_of_mem _ (List.mem_append_right _ h))
set_option maxHeartbeats 4000000 in
set_option maxRecDepth 100000 in
theorem br_open_39 {l : Launch} {dC : Nat → ClassId} {dI : Nat → Nat → Nat} {cB cI cJ cZ cS : ClassId} {h : Nat} {a : Nat → Nat} {as : List Value} {r : Int32} {s' : RS} {k8 : RS → Int32 → Int32 → Option (Int32 × RS)} (hk8 : ∀ (s : RS) (x1 : Int32) (x2 : Int32), k8 s x1 x2 = some (r, s') → BlkI l yX11_open wsX11_open ({ frames := 2, cells := 0, slots := 0, locals := 45 }) cX11_open 3 (some .int) (dC, dI) (tysA cB cI cJ cZ cS) as 8 (mwS cB cI cJ cZ h a s) [(0, .ref h), (1, .int x1), (2, .int x2)] [] (fun x u => x = r ∧ u = (mwS cB cI cJ cZ h a s'))) (s : RS) (x1 : Int32) (x2 : Int32) (hB : r_open_39 k8 s x1 x2 = some (r, s')) : BlkI l yX11_open wsX11_open ({ frames := 2, cells := 0, slots := 0, locals := 45 }) cX11_open 3 (some .int) (dC, dI) (tysA cB cI cJ cZ cS) as 39 (mwS cB cI cJ cZ h a s) [(0, .ref h), (1, .int x1), (2, .int x2)] [] (fun x u => x = r ∧ u = (mwS cB cI cJ cZ h a s')) := by
  intro p e s0 m below meth c A E H locs ls hP hD hS hl
  obtain ⟨C, hr, hlocks, hA, hK, hN⟩ := id E
  obtain ⟨hx, hb, hml, hown, hts⟩ := id C
  unfold r_open_39 at hB
  refine lv_iinc (v := (x2 + 1)) (lv' := [(2, .int (x2 + 1)), (0, .ref h), (1, .int x1)]) hx hb dX11_open_39 hl (k := 2) rfl (rfl) (by decide) rfl (fun ls hl => ?_)
  refine lv_goto (tgt := 8) hx hb dX11_open_42 (by decide) ?_
  exact hk8 _ _ _ hB p e s0 m below meth c A E H locs ls hP hD hS (lv_sub hl [1, 2, 0] rfl)
set_option maxHeartbeats 4000000 in
set_option maxRecDepth 100000 in
theorem br_open_8 {l : Launch} {dC : Nat → ClassId} {dI : Nat → Nat → Nat} {cB cI cJ cZ cS : ClassId} {h : Nat} {a : Nat → Nat} {as : List Value} {r : Int32} {s' : RS} {k8 : RS → Int32 → Int32 → Option (Int32 × RS)} (hk8 : ∀ (s : RS) (x1 : Int32) (x2 : Int32), k8 s x1 x2 = some (r, s') → BlkI l yX11_open wsX11_open ({ frames := 2, cells := 0, slots := 0, locals := 45 }) cX11_open 3 (some .int) (dC, dI) (tysA cB cI cJ cZ cS) as 8 (mwS cB cI cJ cZ h a s) [(0, .ref h), (1, .int x1), (2, .int x2)] [] (fun x u => x = r ∧ u = (mwS cB cI cJ cZ h a s'))) (s : RS) (x1 : Int32) (x2 : Int32) (hB : r_open_8 k8 s x1 x2 = some (r, s')) : BlkI l yX11_open wsX11_open ({ frames := 2, cells := 0, slots := 0, locals := 45 }) cX11_open 3 (some .int) (dC, dI) (tysA cB cI cJ cZ cS) as 8 (mwS cB cI cJ cZ h a s) [(0, .ref h), (1, .int x1), (2, .int x2)] [] (fun x u => x = r ∧ u = (mwS cB cI cJ cZ h a s')) := by
  intro p e s0 m below meth c A E H locs ls hP hD hS hl
  obtain ⟨C, hr, hlocks, hA, hK, hN⟩ := id E
  obtain ⟨hx, hb, hml, hown, hts⟩ := id C
  unfold r_open_8 at hB
  refine lv_iload_n hx hb dX11_open_8 rfl (lv_at hl 2 rfl) ?_
  refine lv_aload_n hx hb dX11_open_9 rfl (lv_at hl 0 rfl) ?_
  refine q_get (v := .ref (a 20)) C inX11_open_X11 hK hP 0 rfl rfl 20 (by decide) rfl LX11_open_40 rfl dX11_open_10 ?_
  refine lv_aload_n hx hb dX11_open_13 rfl (lv_at hl 0 rfl) ?_
  refine q_get (v := .int (s.v 18)) C inX11_open_X11 hK hP 0 rfl rfl 18 (by decide) rfl LX11_open_215 rfl dX11_open_14 ?_
  obtain ⟨g1, hB⟩ := guard_inv hB
  refine q_iald (x := (s.f 20 (Int32.toNatClampNeg (s.v 18)))) C hK hP 8 1 rfl rfl (vpb_in g1) dX11_open_17 rfl ?_
  refine lv_icmp_ge (tgt := 45) hx hb dX11_open_18 (by decide) (fun c2 => ?_) (fun c2 => ?_)
  · have hB := if_p hB c2
    refine lv_iload_n hx hb dX11_open_45 rfl (lv_at hl 1 rfl) ?_
    exact q_iret C hr hlocks hK hP hD hS (Nat.le_of_ble_eq_true rfl) (Nat.le_of_ble_eq_true rfl) dX11_open_46 (by cases hB; exact ⟨rfl, rfl⟩)
  · have hB := if_n hB c2
    refine lv_aload_n hx hb dX11_open_21 rfl (lv_at hl 0 rfl) ?_
    refine lv_iload_n hx hb dX11_open_22 rfl (lv_at hl 2 rfl) ?_
    obtain ⟨q_, s3, hc, hB⟩ := bindI_inv hB
    refine q_goiF (va_runV (As := [.int x2]) (rest := []) C (cr_mayAt hc _) (cwV 1 hts gX11_open_X11_mayAt rfl rfl rfl (by decide +kernel) ⟨Nat.le_of_ble_eq_true rfl, Nat.le_of_ble_eq_true rfl⟩) (q_preV hK hP (ci := 11) (q0 := 0) rfl rfl rfl (q_preF hN hK hP hD)) rfl rfl hl.1 rfl (lv_room (Nat.le_of_ble_eq_true rfl)) dX11_open_23 ⟨Nat.le_of_ble_eq_true rfl, Nat.le_of_ble_eq_true rfl⟩) hD hS hA (fun r4 w1 H locs hw hP hD hS => ?_)
    obtain ⟨hq_, hw⟩ := hw; subst hw; subst hq_
    obtain ⟨q_, hc, hB⟩ := bindP_inv hB
    refine q_goi0 (va_runS (As := [.int r4]) (rest := []) C (cr_bits hc _) (va_cwS 1 hts gX11_open_X11_bits rfl rfl rfl (by decide +kernel) ⟨Nat.le_of_ble_eq_true rfl, Nat.le_of_ble_eq_true rfl⟩) (q_pre0 hN hK) rfl rfl hl.1 rfl (lv_room (Nat.le_of_ble_eq_true rfl)) dX11_open_26 ⟨Nat.le_of_ble_eq_true rfl, Nat.le_of_ble_eq_true rfl⟩) hP hD hS hA (fun r5 w1 H locs hw hP hS => ?_)
    subst hw
    refine lv_iconst (v := 1) hx hb dX11_open_29 (by decide) ?_
    refine lv_icmp_le (tgt := 39) hx hb dX11_open_30 (by decide) (fun c6 => ?_) (fun c6 => ?_)
    · have hB := if_p hB c6
      exact br_open_39 (hk8) _ _ _ hB p e s0 m below meth c A E H locs ls hP hD hS (lv_sub hl [0, 1, 2] rfl)
    · have hB := if_n hB c6
      refine lv_iload_n hx hb dX11_open_33 rfl (lv_at hl 1 rfl) ?_
      refine lv_iconst (v := 1) hx hb dX11_open_34 (by decide) ?_
      refine lv_iload_n hx hb dX11_open_35 rfl (lv_at hl 2 rfl) ?_
      refine lv_ishl hx hb dX11_open_36 ?_
      refine lv_ior hx hb dX11_open_37 ?_
      refine lv_istore_n (lv' := [(1, .int (x1 ||| (1 <<< (x2 &&& 31)))), (0, .ref h), (2, .int x2)]) hx hb dX11_open_38 rfl hl (by decide) rfl (fun ls hl => ?_)
      exact br_open_39 (hk8) _ _ _ hB p e s0 m below meth c A E H locs ls hP hD hS (lv_sub hl [1, 0, 2] rfl)
theorem br_open_8L {l : Launch} {dC : Nat → ClassId} {dI : Nat → Nat → Nat} {cB cI cJ cZ cS : ClassId} {h : Nat} {a : Nat → Nat} {as : List Value} {r : Int32} {s' : RS} : ∀ (n : Nat) (s : RS) (x1 : Int32) (x2 : Int32), r_open_8L n s x1 x2 = some (r, s') → BlkI l yX11_open wsX11_open ({ frames := 2, cells := 0, slots := 0, locals := 45 }) cX11_open 3 (some .int) (dC, dI) (tysA cB cI cJ cZ cS) as 8 (mwS cB cI cJ cZ h a s) [(0, .ref h), (1, .int x1), (2, .int x2)] [] (fun x u => x = r ∧ u = (mwS cB cI cJ cZ h a s')) := by
  intro n
  induction n with
  | zero => intro s x1 x2 hB; exact none_ne hB
  | succ n ih => intro s x1 x2 hB; exact br_open_8 ih _ _ _ hB
set_option maxHeartbeats 4000000 in
set_option maxRecDepth 100000 in
theorem br_open {l : Launch} {dC : Nat → ClassId} {dI : Nat → Nat → Nat} {cB cI cJ cZ cS : ClassId} {h : Nat} {a : Nat → Nat} {as : List Value} {r : Int32} {s' : RS} (s : RS) (hB : r_open s = some (r, s')) : BlkI l yX11_open wsX11_open ({ frames := 2, cells := 0, slots := 0, locals := 45 }) cX11_open 3 (some .int) (dC, dI) (tysA cB cI cJ cZ cS) as 0 (mwS cB cI cJ cZ h a s) [(0, .ref h)] [] (fun x u => x = r ∧ u = (mwS cB cI cJ cZ h a s')) := by
  intro p e s0 m below meth c A E H locs ls hP hD hS hl
  obtain ⟨C, hr, hlocks, hA, hK, hN⟩ := id E
  obtain ⟨hx, hb, hml, hown, hts⟩ := id C
  unfold r_open at hB
  refine lv_aload_n hx hb dX11_open_0 rfl (lv_at hl 0 rfl) ?_
  obtain ⟨s1, hc, hB⟩ := bindP_inv hB
  refine q_govF (va_runV (As := []) (rest := []) C (cr_copies hc _) (cwV 0 hts gX11_open_X11_copies rfl rfl rfl (by decide +kernel) ⟨Nat.le_of_ble_eq_true rfl, Nat.le_of_ble_eq_true rfl⟩) (q_preV hK hP (ci := 11) (q0 := 0) rfl rfl rfl (q_preF hN hK hP hD)) rfl rfl hl.1 rfl (lv_room (Nat.le_of_ble_eq_true rfl)) dX11_open_1 ⟨Nat.le_of_ble_eq_true rfl, Nat.le_of_ble_eq_true rfl⟩) hD hS hA (fun w1 H locs hw hP hD hS => ?_)
  subst hw
  refine lv_iconst (v := 0) hx hb dX11_open_4 (by decide) ?_
  refine lv_istore_n (lv' := [(1, .int 0), (0, .ref h)]) hx hb dX11_open_5 rfl hl (by decide) rfl (fun ls hl => ?_)
  refine lv_iconst (v := 0) hx hb dX11_open_6 (by decide) ?_
  refine lv_istore_n (lv' := [(2, .int 0), (1, .int 0), (0, .ref h)]) hx hb dX11_open_7 rfl hl (by decide) rfl (fun ls hl => ?_)
  exact br_open_8L fu _ _ _ hB p e s0 m below meth c A E H locs ls hP hD hS (lv_sub hl [2, 1, 0] rfl)
theorem cr_open {l : Launch} {dC : Nat → ClassId} {dI : Nat → Nat → Nat} {cB cI cJ cZ cS : ClassId} {h : Nat} {a : Nat → Nat} {r : Int32} {s' : RS} {s : RS} (hB : r_open s = some (r, s')) : CI l yX11_open wsX11_open ({ frames := 2, cells := 0, slots := 0, locals := 45 }) (dC, dI) (tysA cB cI cJ cZ cS) (mwS cB cI cJ cZ h a s) [.ref h] (fun x u => x = r ∧ u = (mwS cB cI cJ cZ h a s')) :=
  CI_of (cc := cX11_open) (maxL := 3) (ret := (some .int)) (by decide) rfl (Nat.le_of_ble_eq_true rfl) (br_open _ hB)
end
section
theorem ggX11_then_X11_isWave : GoodIn wsX11_then wsX11_isWave := gi_sub (fun w h => List.mem_cons_of_mem _ (List.mem_append_left _ (List.mem_append_right _ (List.mem_append_left _ h)))) gd_wsX11_isWave
set_option maxRecDepth 20000 in
theorem gX11_then_X11_isWave : GoodIn wsX11_then (wsV RX11 349 RX11 yX11_isWave wsX11_isWave) := goodIn_app (goodIn_r _ [2, 3, 4, 5] (by decide +kernel) (by decide +kernel)) ggX11_then_X11_isWave
theorem ggX11_then_X11_isLong : GoodIn wsX11_then wsX11_isLong := gi_sub (fun w h => List.mem_cons_of_mem _ (List.mem_append_left _ (List.mem_append_right _ (List.mem_append_right _ (List.mem_append_left _ h))))) gd_wsX11_isLong
set_option maxRecDepth 20000 in
theorem gX11_then_X11_isLong : GoodIn wsX11_then (va_wsS RX11 379 yX11_isLong wsX11_isLong) := goodIn_app (goodIn_of _ (by decide +kernel)) ggX11_then_X11_isLong
theorem ggX11_then_X11_in : GoodIn wsX11_then wsX11_in := gi_sub (fun w h => List.mem_cons_of_mem _ (List.mem_append_left _ (List.mem_append_right _ (List.mem_append_right _ (List.mem_append_right _ (List.mem_append_left _ h)))))) gd_wsX11_in
set_option maxRecDepth 20000 in
theorem gX11_then_X11_in : GoodIn wsX11_then (va_wsS RX11 281 yX11_in wsX11_in) := goodIn_app (goodIn_of _ (by decide +kernel)) ggX11_then_X11_in
theorem ggX11_then_X11_copies : GoodIn wsX11_then wsX11_copies := gi_sub (fun w h => List.mem_cons_of_mem _ (List.mem_append_left _ (List.mem_append_right _ (List.mem_append_right _ (List.mem_append_right _ (List.mem_append_right _ (List.mem_append_left _ h))))))) gd_wsX11_copies
set_option maxRecDepth 20000 in
theorem gX11_then_X11_copies : GoodIn wsX11_then (wsV RX11 352 RX11 yX11_copies wsX11_copies) := goodIn_app (goodIn_r _ [10, 11, 12, 5] (by decide +kernel) (by decide +kernel)) ggX11_then_X11_copies
theorem ggX11_then_X11_yearsGo : GoodIn wsX11_then wsX11_yearsGo := gi_sub (fun w h => List.mem_cons_of_mem _ (List.mem_append_left _ (List.mem_append_right _ (List.mem_append_right _ (List.mem_append_right _ (List.mem_append_right _ (List.mem_append_right _ (List.mem_append_left _ h)))))))) gd_wsX11_yearsGo
set_option maxRecDepth 20000 in
theorem gX11_then_X11_yearsGo : GoodIn wsX11_then (wsV RX11 382 RX11 yX11_yearsGo wsX11_yearsGo) := goodIn_app (goodIn_r _ [13, 14, 15, 5] (by decide +kernel) (by decide +kernel)) ggX11_then_X11_yearsGo
theorem ggX11_then_X11_mayAt : GoodIn wsX11_then wsX11_mayAt := gi_sub (fun w h => List.mem_cons_of_mem _ (List.mem_append_left _ (List.mem_append_right _ (List.mem_append_right _ (List.mem_append_right _ (List.mem_append_right _ (List.mem_append_right _ (List.mem_append_right _ (List.mem_append_left _ h))))))))) gd_wsX11_mayAt
set_option maxRecDepth 20000 in
theorem gX11_then_X11_mayAt : GoodIn wsX11_then (wsV RX11 309 RX11 yX11_mayAt wsX11_mayAt) := goodIn_app (goodIn_r _ [16, 17, 18, 5] (by decide +kernel) (by decide +kernel)) ggX11_then_X11_mayAt
theorem ggX11_then_X11_thereAt : GoodIn wsX11_then wsX11_thereAt := gi_sub (fun w h => List.mem_cons_of_mem _ (List.mem_append_left _ (List.mem_append_right _ (List.mem_append_right _ (List.mem_append_right _ (List.mem_append_right _ (List.mem_append_right _ (List.mem_append_right _ (List.mem_append_right _ h))))))))) gd_wsX11_thereAt
set_option maxRecDepth 20000 in
theorem gX11_then_X11_thereAt : GoodIn wsX11_then (wsV RX11 303 RX11 yX11_thereAt wsX11_thereAt) := goodIn_app (goodIn_r _ [19, 20, 21, 5] (by decide +kernel) (by decide +kernel)) ggX11_then_X11_thereAt
theorem dX11_then_0 : decode cX11_then 0 = .ok (.aload_n 0, 1) := dc1_42 (by decide +kernel)
theorem dX11_then_1 : decode cX11_then 1 = .ok (.iload_n 1, 1) := dc1_27 (by decide +kernel)
theorem dX11_then_2 : decode cX11_then 2 = .ok (.invokevirtual 349, 3) := dcw_182 (by decide +kernel)
theorem dX11_then_5 : decode cX11_then 5 = .ok (.ifCond .eq 19, 3) := dcs_153 (n := 19) (by decide +kernel)
theorem dX11_then_8 : decode cX11_then 8 = .ok (.iload_n 2, 1) := dc1_28 (by decide +kernel)
theorem dX11_then_9 : decode cX11_then 9 = .ok (.invokestatic 379, 3) := dcw_184 (by decide +kernel)
theorem dX11_then_12 : decode cX11_then 12 = .ok (.ifCond .eq 12, 3) := dcs_153 (n := 12) (by decide +kernel)
theorem dX11_then_15 : decode cX11_then 15 = .ok (.iload_n 3, 1) := dc1_29 (by decide +kernel)
theorem dX11_then_16 : decode cX11_then 16 = .ok (.iconst 0, 1) := dc1_3 (by decide +kernel)
theorem dX11_then_17 : decode cX11_then 17 = .ok (.iconst 2, 1) := dc1_5 (by decide +kernel)
theorem dX11_then_18 : decode cX11_then 18 = .ok (.invokestatic 281, 3) := dcw_184 (by decide +kernel)
theorem dX11_then_21 : decode cX11_then 21 = .ok (.ifCond .ne 5, 3) := dcs_154 (n := 5) (by decide +kernel)
theorem dX11_then_24 : decode cX11_then 24 = .ok (.iconst (-1), 1) := dc1_2 (by decide +kernel)
theorem dX11_then_25 : decode cX11_then 25 = .ok (.ireturn, 1) := dc1_172 (by decide +kernel)
theorem dX11_then_26 : decode cX11_then 26 = .ok (.aload_n 0, 1) := dc1_42 (by decide +kernel)
theorem dX11_then_27 : decode cX11_then 27 = .ok (.invokevirtual 352, 3) := dcw_182 (by decide +kernel)
theorem dX11_then_30 : decode cX11_then 30 = .ok (.aload_n 0, 1) := dc1_42 (by decide +kernel)
theorem dX11_then_31 : decode cX11_then 31 = .ok (.iload_n 2, 1) := dc1_28 (by decide +kernel)
theorem dX11_then_32 : decode cX11_then 32 = .ok (.invokevirtual 382, 3) := dcw_182 (by decide +kernel)
theorem dX11_then_35 : decode cX11_then 35 = .ok (.iload_n 3, 1) := dc1_29 (by decide +kernel)
theorem dX11_then_36 : decode cX11_then 36 = .ok (.ifCond .ne 11, 3) := dcs_154 (n := 11) (by decide +kernel)
theorem dX11_then_39 : decode cX11_then 39 = .ok (.aload_n 0, 1) := dc1_42 (by decide +kernel)
theorem dX11_then_40 : decode cX11_then 40 = .ok (.iload_n 1, 1) := dc1_27 (by decide +kernel)
theorem dX11_then_41 : decode cX11_then 41 = .ok (.invokevirtual 309, 3) := dcw_182 (by decide +kernel)
theorem dX11_then_44 : decode cX11_then 44 = .ok (.goto 25, 3) := dcs_167 (n := 25) (by decide +kernel)
theorem dX11_then_47 : decode cX11_then 47 = .ok (.iload_n 3, 1) := dc1_29 (by decide +kernel)
theorem dX11_then_48 : decode cX11_then 48 = .ok (.iconst 1, 1) := dc1_4 (by decide +kernel)
theorem dX11_then_49 : decode cX11_then 49 = .ok (.if_icmp .ne 15, 3) := dcs_160 (n := 15) (by decide +kernel)
theorem dX11_then_52 : decode cX11_then 52 = .ok (.aload_n 0, 1) := dc1_42 (by decide +kernel)
theorem dX11_then_53 : decode cX11_then 53 = .ok (.getfield 101, 3) := dcw_180 (by decide +kernel)
theorem dX11_then_56 : decode cX11_then 56 = .ok (.bipush 10, 2) := dcb_16 (n := 10) (by decide +kernel)
theorem dX11_then_58 : decode cX11_then 58 = .ok (.iload_n 1, 1) := dc1_27 (by decide +kernel)
theorem dX11_then_59 : decode cX11_then 59 = .ok (.iadd, 1) := dc1_96 (by decide +kernel)
theorem dX11_then_60 : decode cX11_then 60 = .ok (.iaload, 1) := dc1_46 (by decide +kernel)
theorem dX11_then_61 : decode cX11_then 61 = .ok (.goto 8, 3) := dcs_167 (n := 8) (by decide +kernel)
theorem dX11_then_64 : decode cX11_then 64 = .ok (.aload_n 0, 1) := dc1_42 (by decide +kernel)
theorem dX11_then_65 : decode cX11_then 65 = .ok (.iload_n 1, 1) := dc1_27 (by decide +kernel)
theorem dX11_then_66 : decode cX11_then 66 = .ok (.invokevirtual 303, 3) := dcw_182 (by decide +kernel)
theorem dX11_then_69 : decode cX11_then 69 = .ok (.ireturn, 1) := dc1_172 (by decide +kernel)
theorem ggX11_next_X11_isWave : GoodIn wsX11_next wsX11_isWave := gi_sub (fun w h => List.mem_cons_of_mem _ (List.mem_append_left _ (List.mem_append_right _ (List.mem_append_left _ h)))) gd_wsX11_isWave
set_option maxRecDepth 20000 in
theorem gX11_next_X11_isWave : GoodIn wsX11_next (wsV RX11 349 RX11 yX11_isWave wsX11_isWave) := goodIn_app (goodIn_r _ [3, 4, 5, 6] (by decide +kernel) (by decide +kernel)) ggX11_next_X11_isWave
theorem ggX11_next_X11_copies : GoodIn wsX11_next wsX11_copies := gi_sub (fun w h => List.mem_cons_of_mem _ (List.mem_append_left _ (List.mem_append_right _ (List.mem_append_right _ (List.mem_append_left _ h))))) gd_wsX11_copies
set_option maxRecDepth 20000 in
theorem gX11_next_X11_copies : GoodIn wsX11_next (wsV RX11 352 RX11 yX11_copies wsX11_copies) := goodIn_app (goodIn_r _ [7, 8, 9, 6] (by decide +kernel) (by decide +kernel)) ggX11_next_X11_copies
theorem ggX11_next_X11_yearGoes : GoodIn wsX11_next wsX11_yearGoes := gi_sub (fun w h => List.mem_cons_of_mem _ (List.mem_append_left _ (List.mem_append_right _ (List.mem_append_right _ (List.mem_append_right _ h))))) gd_wsX11_yearGoes
set_option maxRecDepth 20000 in
theorem gX11_next_X11_yearGoes : GoodIn wsX11_next (wsV RX11 346 RX11 yX11_yearGoes wsX11_yearGoes) := goodIn_app (goodIn_r _ [10, 11, 12, 6] (by decide +kernel) (by decide +kernel)) ggX11_next_X11_yearGoes
theorem dX11_next_0 : decode cX11_next 0 = .ok (.aload_n 0, 1) := dc1_42 (by decide +kernel)
theorem dX11_next_1 : decode cX11_next 1 = .ok (.iload_n 1, 1) := dc1_27 (by decide +kernel)
theorem dX11_next_2 : decode cX11_next 2 = .ok (.invokevirtual 349, 3) := dcw_182 (by decide +kernel)
theorem dX11_next_5 : decode cX11_next 5 = .ok (.ifCond .ne 5, 3) := dcs_154 (n := 5) (by decide +kernel)
theorem dX11_next_8 : decode cX11_next 8 = .ok (.iconst (-1), 1) := dc1_2 (by decide +kernel)
theorem dX11_next_9 : decode cX11_next 9 = .ok (.ireturn, 1) := dc1_172 (by decide +kernel)
theorem dX11_next_10 : decode cX11_next 10 = .ok (.aload_n 0, 1) := dc1_42 (by decide +kernel)
theorem dX11_next_11 : decode cX11_next 11 = .ok (.invokevirtual 352, 3) := dcw_182 (by decide +kernel)
theorem dX11_next_14 : decode cX11_next 14 = .ok (.iconst 1, 1) := dc1_4 (by decide +kernel)
theorem dX11_next_15 : decode cX11_next 15 = .ok (.istore_n 2, 1) := dc1_61 (by decide +kernel)
theorem dX11_next_16 : decode cX11_next 16 = .ok (.iload_n 2, 1) := dc1_28 (by decide +kernel)
theorem dX11_next_17 : decode cX11_next 17 = .ok (.bipush 40, 2) := dcb_16 (n := 40) (by decide +kernel)
theorem dX11_next_19 : decode cX11_next 19 = .ok (.if_icmp .gt 36, 3) := dcs_163 (n := 36) (by decide +kernel)
theorem dX11_next_22 : decode cX11_next 22 = .ok (.aload_n 0, 1) := dc1_42 (by decide +kernel)
theorem dX11_next_23 : decode cX11_next 23 = .ok (.invokevirtual 346, 3) := dcw_182 (by decide +kernel)
theorem dX11_next_26 : decode cX11_next 26 = .ok (.aload_n 0, 1) := dc1_42 (by decide +kernel)
theorem dX11_next_27 : decode cX11_next 27 = .ok (.getfield 101, 3) := dcw_180 (by decide +kernel)
theorem dX11_next_30 : decode cX11_next 30 = .ok (.bipush 10, 2) := dcb_16 (n := 10) (by decide +kernel)
theorem dX11_next_32 : decode cX11_next 32 = .ok (.iload_n 1, 1) := dc1_27 (by decide +kernel)
theorem dX11_next_33 : decode cX11_next 33 = .ok (.iadd, 1) := dc1_96 (by decide +kernel)
theorem dX11_next_34 : decode cX11_next 34 = .ok (.iaload, 1) := dc1_46 (by decide +kernel)
theorem dX11_next_35 : decode cX11_next 35 = .ok (.aload_n 0, 1) := dc1_42 (by decide +kernel)
theorem dX11_next_36 : decode cX11_next 36 = .ok (.getfield 98, 3) := dcw_180 (by decide +kernel)
theorem dX11_next_39 : decode cX11_next 39 = .ok (.bipush 10, 2) := dcb_16 (n := 10) (by decide +kernel)
theorem dX11_next_41 : decode cX11_next 41 = .ok (.iload_n 1, 1) := dc1_27 (by decide +kernel)
theorem dX11_next_42 : decode cX11_next 42 = .ok (.iadd, 1) := dc1_96 (by decide +kernel)
theorem dX11_next_43 : decode cX11_next 43 = .ok (.iaload, 1) := dc1_46 (by decide +kernel)
theorem dX11_next_44 : decode cX11_next 44 = .ok (.if_icmp .le 5, 3) := dcs_164 (n := 5) (by decide +kernel)
theorem dX11_next_47 : decode cX11_next 47 = .ok (.iload_n 2, 1) := dc1_28 (by decide +kernel)
theorem dX11_next_48 : decode cX11_next 48 = .ok (.ireturn, 1) := dc1_172 (by decide +kernel)
theorem dX11_next_49 : decode cX11_next 49 = .ok (.iinc 2 1, 3) := dc_iinc (m := 1) (by decide +kernel)
theorem dX11_next_52 : decode cX11_next 52 = .ok (.goto (-36), 3) := dcs_167 (n := 65500) (by decide +kernel)
theorem dX11_next_55 : decode cX11_next 55 = .ok (.bipush (-2), 2) := dcb_16 (n := 254) (by decide +kernel)
theorem dX11_next_57 : decode cX11_next 57 = .ok (.ireturn, 1) := dc1_172 (by decide +kernel)
theorem ggX11_year_X11_isGuess : GoodIn wsX11_year wsX11_isGuess := gi_sub (fun w h => List.mem_cons_of_mem _ (List.mem_append_left _ (List.mem_append_right _ (List.mem_append_left _ h)))) gd_wsX11_isGuess
set_option maxRecDepth 20000 in
theorem gX11_year_X11_isGuess : GoodIn wsX11_year (wsV RX11 367 RX11 yX11_isGuess wsX11_isGuess) := goodIn_app (goodIn_r _ [2, 3, 4, 5] (by decide +kernel) (by decide +kernel)) ggX11_year_X11_isGuess
theorem ggX11_year_X11_in : GoodIn wsX11_year wsX11_in := gi_sub (fun w h => List.mem_cons_of_mem _ (List.mem_append_left _ (List.mem_append_right _ (List.mem_append_right _ (List.mem_append_left _ h))))) gd_wsX11_in
set_option maxRecDepth 20000 in
theorem gX11_year_X11_in : GoodIn wsX11_year (va_wsS RX11 281 yX11_in wsX11_in) := goodIn_app (goodIn_of _ (by decide +kernel)) ggX11_year_X11_in
theorem ggX11_year_X11_copies : GoodIn wsX11_year wsX11_copies := gi_sub (fun w h => List.mem_cons_of_mem _ (List.mem_append_left _ (List.mem_append_right _ (List.mem_append_right _ (List.mem_append_right _ (List.mem_append_left _ h)))))) gd_wsX11_copies
set_option maxRecDepth 20000 in
theorem gX11_year_X11_copies : GoodIn wsX11_year (wsV RX11 352 RX11 yX11_copies wsX11_copies) := goodIn_app (goodIn_r _ [8, 9, 10, 5] (by decide +kernel) (by decide +kernel)) ggX11_year_X11_copies
theorem ggX11_year_X11_thereNumber : GoodIn wsX11_year wsX11_thereNumber := gi_sub (fun w h => List.mem_cons_of_mem _ (List.mem_append_left _ (List.mem_append_right _ (List.mem_append_right _ (List.mem_append_right _ (List.mem_append_right _ h)))))) gd_wsX11_thereNumber
set_option maxRecDepth 20000 in
theorem gX11_year_X11_thereNumber : GoodIn wsX11_year (wsV RX11 370 RX11 yX11_thereNumber wsX11_thereNumber) := goodIn_app (goodIn_r _ [11, 12, 13, 5] (by decide +kernel) (by decide +kernel)) ggX11_year_X11_thereNumber
theorem dX11_year_0 : decode cX11_year 0 = .ok (.aload_n 0, 1) := dc1_42 (by decide +kernel)
theorem dX11_year_1 : decode cX11_year 1 = .ok (.iload_n 1, 1) := dc1_27 (by decide +kernel)
theorem dX11_year_2 : decode cX11_year 2 = .ok (.invokevirtual 367, 3) := dcw_182 (by decide +kernel)
theorem dX11_year_5 : decode cX11_year 5 = .ok (.ifCond .eq 13, 3) := dcs_153 (n := 13) (by decide +kernel)
theorem dX11_year_8 : decode cX11_year 8 = .ok (.iload_n 2, 1) := dc1_28 (by decide +kernel)
theorem dX11_year_9 : decode cX11_year 9 = .ok (.iconst 1, 1) := dc1_4 (by decide +kernel)
theorem dX11_year_10 : decode cX11_year 10 = .ok (.bipush 20, 2) := dcb_16 (n := 20) (by decide +kernel)
theorem dX11_year_12 : decode cX11_year 12 = .ok (.invokestatic 281, 3) := dcw_184 (by decide +kernel)
theorem dX11_year_15 : decode cX11_year 15 = .ok (.ifCond .ne 5, 3) := dcs_154 (n := 5) (by decide +kernel)
theorem dX11_year_18 : decode cX11_year 18 = .ok (.iconst (-1), 1) := dc1_2 (by decide +kernel)
theorem dX11_year_19 : decode cX11_year 19 = .ok (.ireturn, 1) := dc1_172 (by decide +kernel)
theorem dX11_year_20 : decode cX11_year 20 = .ok (.aload_n 0, 1) := dc1_42 (by decide +kernel)
theorem dX11_year_21 : decode cX11_year 21 = .ok (.invokevirtual 352, 3) := dcw_182 (by decide +kernel)
theorem dX11_year_24 : decode cX11_year 24 = .ok (.iconst 0, 1) := dc1_3 (by decide +kernel)
theorem dX11_year_25 : decode cX11_year 25 = .ok (.istore_n 3, 1) := dc1_62 (by decide +kernel)
theorem dX11_year_26 : decode cX11_year 26 = .ok (.iconst 0, 1) := dc1_3 (by decide +kernel)
theorem dX11_year_27 : decode cX11_year 27 = .ok (.istore 4, 2) := dcu_54 (by decide +kernel)
theorem dX11_year_29 : decode cX11_year 29 = .ok (.iload 4, 2) := dcu_21 (by decide +kernel)
theorem dX11_year_31 : decode cX11_year 31 = .ok (.iload_n 2, 1) := dc1_28 (by decide +kernel)
theorem dX11_year_32 : decode cX11_year 32 = .ok (.if_icmp .ge 30, 3) := dcs_162 (n := 30) (by decide +kernel)
theorem dX11_year_35 : decode cX11_year 35 = .ok (.aload_n 0, 1) := dc1_42 (by decide +kernel)
theorem dX11_year_36 : decode cX11_year 36 = .ok (.invokevirtual 370, 3) := dcw_182 (by decide +kernel)
theorem dX11_year_39 : decode cX11_year 39 = .ok (.iload_n 1, 1) := dc1_27 (by decide +kernel)
theorem dX11_year_40 : decode cX11_year 40 = .ok (.if_icmp .ne 6, 3) := dcs_160 (n := 6) (by decide +kernel)
theorem dX11_year_43 : decode cX11_year 43 = .ok (.iinc 3 1, 3) := dc_iinc (m := 1) (by decide +kernel)
theorem dX11_year_46 : decode cX11_year 46 = .ok (.aload_n 0, 1) := dc1_42 (by decide +kernel)
theorem dX11_year_47 : decode cX11_year 47 = .ok (.dup, 1) := dc1_89 (by decide +kernel)
theorem dX11_year_48 : decode cX11_year 48 = .ok (.getfield 289, 3) := dcw_180 (by decide +kernel)
theorem dX11_year_51 : decode cX11_year 51 = .ok (.iconst 1, 1) := dc1_4 (by decide +kernel)
theorem dX11_year_52 : decode cX11_year 52 = .ok (.iadd, 1) := dc1_96 (by decide +kernel)
theorem dX11_year_53 : decode cX11_year 53 = .ok (.putfield 289, 3) := dcw_181 (by decide +kernel)
theorem dX11_year_56 : decode cX11_year 56 = .ok (.iinc 4 1, 3) := dc_iinc (m := 1) (by decide +kernel)
theorem dX11_year_59 : decode cX11_year 59 = .ok (.goto (-30), 3) := dcs_167 (n := 65506) (by decide +kernel)
theorem dX11_year_62 : decode cX11_year 62 = .ok (.iload_n 3, 1) := dc1_29 (by decide +kernel)
theorem dX11_year_63 : decode cX11_year 63 = .ok (.ireturn, 1) := dc1_172 (by decide +kernel)
theorem ggX11_drawn_X11_isWave : GoodIn wsX11_drawn wsX11_isWave := gi_sub (fun w h => List.mem_cons_of_mem _ (List.mem_append_left _ (List.mem_append_right _ (List.mem_append_left _ h)))) gd_wsX11_isWave
set_option maxRecDepth 20000 in
theorem gX11_drawn_X11_isWave : GoodIn wsX11_drawn (wsV RX11 349 RX11 yX11_isWave wsX11_isWave) := goodIn_app (goodIn_r _ [2, 3, 4, 5] (by decide +kernel) (by decide +kernel)) ggX11_drawn_X11_isWave
theorem ggX11_drawn_X11_in : GoodIn wsX11_drawn wsX11_in := gi_sub (fun w h => List.mem_cons_of_mem _ (List.mem_append_left _ (List.mem_append_right _ (List.mem_append_right _ (List.mem_append_left _ h))))) gd_wsX11_in
set_option maxRecDepth 20000 in
theorem gX11_drawn_X11_in : GoodIn wsX11_drawn (va_wsS RX11 281 yX11_in wsX11_in) := goodIn_app (goodIn_of _ (by decide +kernel)) ggX11_drawn_X11_in
theorem ggX11_drawn_X11_copies : GoodIn wsX11_drawn wsX11_copies := gi_sub (fun w h => List.mem_cons_of_mem _ (List.mem_append_left _ (List.mem_append_right _ (List.mem_append_right _ (List.mem_append_right _ (List.mem_append_left _ h)))))) gd_wsX11_copies
set_option maxRecDepth 20000 in
theorem gX11_drawn_X11_copies : GoodIn wsX11_drawn (wsV RX11 352 RX11 yX11_copies wsX11_copies) := goodIn_app (goodIn_r _ [8, 9, 10, 5] (by decide +kernel) (by decide +kernel)) ggX11_drawn_X11_copies
theorem ggX11_drawn_X11_thereAt : GoodIn wsX11_drawn wsX11_thereAt := gi_sub (fun w h => List.mem_cons_of_mem _ (List.mem_append_left _ (List.mem_append_right _ (List.mem_append_right _ (List.mem_append_right _ (List.mem_append_right _ (List.mem_append_left _ h))))))) gd_wsX11_thereAt
set_option maxRecDepth 20000 in
theorem gX11_drawn_X11_thereAt : GoodIn wsX11_drawn (wsV RX11 303 RX11 yX11_thereAt wsX11_thereAt) := goodIn_app (goodIn_r _ [11, 12, 13, 5] (by decide +kernel) (by decide +kernel)) ggX11_drawn_X11_thereAt
theorem ggX11_drawn_X11_bits : GoodIn wsX11_drawn wsX11_bits := gi_sub (fun w h => List.mem_cons_of_mem _ (List.mem_append_left _ (List.mem_append_right _ (List.mem_append_right _ (List.mem_append_right _ (List.mem_append_right _ (List.mem_append_right _ h))))))) gd_wsX11_bits
set_option maxRecDepth 20000 in
theorem gX11_drawn_X11_bits : GoodIn wsX11_drawn (va_wsS RX11 312 yX11_bits wsX11_bits) := goodIn_app (goodIn_of _ (by decide +kernel)) ggX11_drawn_X11_bits
theorem dX11_drawn_0 : decode cX11_drawn 0 = .ok (.aload_n 0, 1) := dc1_42 (by decide +kernel)
theorem dX11_drawn_1 : decode cX11_drawn 1 = .ok (.iload_n 1, 1) := dc1_27 (by decide +kernel)
theorem dX11_drawn_2 : decode cX11_drawn 2 = .ok (.invokevirtual 349, 3) := dcw_182 (by decide +kernel)
theorem dX11_drawn_5 : decode cX11_drawn 5 = .ok (.ifCond .eq 13, 3) := dcs_153 (n := 13) (by decide +kernel)
theorem dX11_drawn_8 : decode cX11_drawn 8 = .ok (.iload_n 2, 1) := dc1_28 (by decide +kernel)
theorem dX11_drawn_9 : decode cX11_drawn 9 = .ok (.iconst 1, 1) := dc1_4 (by decide +kernel)
theorem dX11_drawn_10 : decode cX11_drawn 10 = .ok (.bipush 20, 2) := dcb_16 (n := 20) (by decide +kernel)
theorem dX11_drawn_12 : decode cX11_drawn 12 = .ok (.invokestatic 281, 3) := dcw_184 (by decide +kernel)
theorem dX11_drawn_15 : decode cX11_drawn 15 = .ok (.ifCond .ne 5, 3) := dcs_154 (n := 5) (by decide +kernel)
theorem dX11_drawn_18 : decode cX11_drawn 18 = .ok (.iconst (-1), 1) := dc1_2 (by decide +kernel)
theorem dX11_drawn_19 : decode cX11_drawn 19 = .ok (.ireturn, 1) := dc1_172 (by decide +kernel)
theorem dX11_drawn_20 : decode cX11_drawn 20 = .ok (.aload_n 0, 1) := dc1_42 (by decide +kernel)
theorem dX11_drawn_21 : decode cX11_drawn 21 = .ok (.invokevirtual 352, 3) := dcw_182 (by decide +kernel)
theorem dX11_drawn_24 : decode cX11_drawn 24 = .ok (.iconst 0, 1) := dc1_3 (by decide +kernel)
theorem dX11_drawn_25 : decode cX11_drawn 25 = .ok (.istore_n 3, 1) := dc1_62 (by decide +kernel)
theorem dX11_drawn_26 : decode cX11_drawn 26 = .ok (.iconst 0, 1) := dc1_3 (by decide +kernel)
theorem dX11_drawn_27 : decode cX11_drawn 27 = .ok (.istore 4, 2) := dcu_54 (by decide +kernel)
theorem dX11_drawn_29 : decode cX11_drawn 29 = .ok (.iload 4, 2) := dcu_21 (by decide +kernel)
theorem dX11_drawn_31 : decode cX11_drawn 31 = .ok (.iload_n 2, 1) := dc1_28 (by decide +kernel)
theorem dX11_drawn_32 : decode cX11_drawn 32 = .ok (.if_icmp .ge 29, 3) := dcs_162 (n := 29) (by decide +kernel)
theorem dX11_drawn_35 : decode cX11_drawn 35 = .ok (.iload_n 3, 1) := dc1_29 (by decide +kernel)
theorem dX11_drawn_36 : decode cX11_drawn 36 = .ok (.iconst 1, 1) := dc1_4 (by decide +kernel)
theorem dX11_drawn_37 : decode cX11_drawn 37 = .ok (.aload_n 0, 1) := dc1_42 (by decide +kernel)
theorem dX11_drawn_38 : decode cX11_drawn 38 = .ok (.iload_n 1, 1) := dc1_27 (by decide +kernel)
theorem dX11_drawn_39 : decode cX11_drawn 39 = .ok (.invokevirtual 303, 3) := dcw_182 (by decide +kernel)
theorem dX11_drawn_42 : decode cX11_drawn 42 = .ok (.ishl, 1) := dc1_120 (by decide +kernel)
theorem dX11_drawn_43 : decode cX11_drawn 43 = .ok (.ior, 1) := dc1_128 (by decide +kernel)
theorem dX11_drawn_44 : decode cX11_drawn 44 = .ok (.istore_n 3, 1) := dc1_62 (by decide +kernel)
theorem dX11_drawn_45 : decode cX11_drawn 45 = .ok (.aload_n 0, 1) := dc1_42 (by decide +kernel)
theorem dX11_drawn_46 : decode cX11_drawn 46 = .ok (.dup, 1) := dc1_89 (by decide +kernel)
theorem dX11_drawn_47 : decode cX11_drawn 47 = .ok (.getfield 289, 3) := dcw_180 (by decide +kernel)
theorem dX11_drawn_50 : decode cX11_drawn 50 = .ok (.iconst 1, 1) := dc1_4 (by decide +kernel)
theorem dX11_drawn_51 : decode cX11_drawn 51 = .ok (.iadd, 1) := dc1_96 (by decide +kernel)
theorem dX11_drawn_52 : decode cX11_drawn 52 = .ok (.putfield 289, 3) := dcw_181 (by decide +kernel)
theorem dX11_drawn_55 : decode cX11_drawn 55 = .ok (.iinc 4 1, 3) := dc_iinc (m := 1) (by decide +kernel)
theorem dX11_drawn_58 : decode cX11_drawn 58 = .ok (.goto (-29), 3) := dcs_167 (n := 65507) (by decide +kernel)
theorem dX11_drawn_61 : decode cX11_drawn 61 = .ok (.iload_n 3, 1) := dc1_29 (by decide +kernel)
theorem dX11_drawn_62 : decode cX11_drawn 62 = .ok (.invokestatic 312, 3) := dcw_184 (by decide +kernel)
theorem dX11_drawn_65 : decode cX11_drawn 65 = .ok (.ireturn, 1) := dc1_172 (by decide +kernel)
theorem ggX11_tell_X11_isWave : GoodIn wsX11_tell wsX11_isWave := gi_sub (fun w h => List.mem_cons_of_mem _ (List.mem_append_left _ (List.mem_append_right _ (List.mem_append_left _ h)))) gd_wsX11_isWave
set_option maxRecDepth 20000 in
theorem gX11_tell_X11_isWave : GoodIn wsX11_tell (wsV RX11 349 RX11 yX11_isWave wsX11_isWave) := goodIn_app (goodIn_r _ [5, 6, 7, 8] (by decide +kernel) (by decide +kernel)) ggX11_tell_X11_isWave
theorem ggX11_tell_X11_in : GoodIn wsX11_tell wsX11_in := gi_sub (fun w h => List.mem_cons_of_mem _ (List.mem_append_left _ (List.mem_append_right _ (List.mem_append_right _ h)))) gd_wsX11_in
set_option maxRecDepth 20000 in
theorem gX11_tell_X11_in : GoodIn wsX11_tell (va_wsS RX11 281 yX11_in wsX11_in) := goodIn_app (goodIn_of _ (by decide +kernel)) ggX11_tell_X11_in
theorem dX11_tell_0 : decode cX11_tell 0 = .ok (.aload_n 0, 1) := dc1_42 (by decide +kernel)
theorem dX11_tell_1 : decode cX11_tell 1 = .ok (.getfield 233, 3) := dcw_180 (by decide +kernel)
theorem dX11_tell_4 : decode cX11_tell 4 = .ok (.bipush 20, 2) := dcb_16 (n := 20) (by decide +kernel)
theorem dX11_tell_6 : decode cX11_tell 6 = .ok (.if_icmp .eq 21, 3) := dcs_159 (n := 21) (by decide +kernel)
theorem dX11_tell_9 : decode cX11_tell 9 = .ok (.aload_n 0, 1) := dc1_42 (by decide +kernel)
theorem dX11_tell_10 : decode cX11_tell 10 = .ok (.iload_n 1, 1) := dc1_27 (by decide +kernel)
theorem dX11_tell_11 : decode cX11_tell 11 = .ok (.invokevirtual 349, 3) := dcw_182 (by decide +kernel)
theorem dX11_tell_14 : decode cX11_tell 14 = .ok (.ifCond .eq 13, 3) := dcs_153 (n := 13) (by decide +kernel)
theorem dX11_tell_17 : decode cX11_tell 17 = .ok (.iload_n 2, 1) := dc1_28 (by decide +kernel)
theorem dX11_tell_18 : decode cX11_tell 18 = .ok (.iconst 1, 1) := dc1_4 (by decide +kernel)
theorem dX11_tell_19 : decode cX11_tell 19 = .ok (.bipush 63, 2) := dcb_16 (n := 63) (by decide +kernel)
theorem dX11_tell_21 : decode cX11_tell 21 = .ok (.invokestatic 281, 3) := dcw_184 (by decide +kernel)
theorem dX11_tell_24 : decode cX11_tell 24 = .ok (.ifCond .ne 5, 3) := dcs_154 (n := 5) (by decide +kernel)
theorem dX11_tell_27 : decode cX11_tell 27 = .ok (.iconst (-1), 1) := dc1_2 (by decide +kernel)
theorem dX11_tell_28 : decode cX11_tell 28 = .ok (.ireturn, 1) := dc1_172 (by decide +kernel)
theorem dX11_tell_29 : decode cX11_tell 29 = .ok (.aload_n 0, 1) := dc1_42 (by decide +kernel)
theorem dX11_tell_30 : decode cX11_tell 30 = .ok (.getfield 116, 3) := dcw_180 (by decide +kernel)
theorem dX11_tell_33 : decode cX11_tell 33 = .ok (.aload_n 0, 1) := dc1_42 (by decide +kernel)
theorem dX11_tell_34 : decode cX11_tell 34 = .ok (.getfield 233, 3) := dcw_180 (by decide +kernel)
theorem dX11_tell_37 : decode cX11_tell 37 = .ok (.iload_n 1, 1) := dc1_27 (by decide +kernel)
theorem dX11_tell_38 : decode cX11_tell 38 = .ok (.iastore, 1) := dc1_79 (by decide +kernel)
theorem dX11_tell_39 : decode cX11_tell 39 = .ok (.aload_n 0, 1) := dc1_42 (by decide +kernel)
theorem dX11_tell_40 : decode cX11_tell 40 = .ok (.getfield 119, 3) := dcw_180 (by decide +kernel)
theorem dX11_tell_43 : decode cX11_tell 43 = .ok (.aload_n 0, 1) := dc1_42 (by decide +kernel)
theorem dX11_tell_44 : decode cX11_tell 44 = .ok (.getfield 233, 3) := dcw_180 (by decide +kernel)
theorem dX11_tell_47 : decode cX11_tell 47 = .ok (.iload_n 2, 1) := dc1_28 (by decide +kernel)
theorem dX11_tell_48 : decode cX11_tell 48 = .ok (.iastore, 1) := dc1_79 (by decide +kernel)
theorem dX11_tell_49 : decode cX11_tell 49 = .ok (.aload_n 0, 1) := dc1_42 (by decide +kernel)
theorem dX11_tell_50 : decode cX11_tell 50 = .ok (.getfield 122, 3) := dcw_180 (by decide +kernel)
theorem dX11_tell_53 : decode cX11_tell 53 = .ok (.aload_n 0, 1) := dc1_42 (by decide +kernel)
theorem dX11_tell_54 : decode cX11_tell 54 = .ok (.getfield 233, 3) := dcw_180 (by decide +kernel)
theorem dX11_tell_57 : decode cX11_tell 57 = .ok (.iload_n 3, 1) := dc1_29 (by decide +kernel)
theorem dX11_tell_58 : decode cX11_tell 58 = .ok (.bastore, 1) := dc1_84 (by decide +kernel)
theorem dX11_tell_59 : decode cX11_tell 59 = .ok (.aload_n 0, 1) := dc1_42 (by decide +kernel)
theorem dX11_tell_60 : decode cX11_tell 60 = .ok (.dup, 1) := dc1_89 (by decide +kernel)
theorem dX11_tell_61 : decode cX11_tell 61 = .ok (.getfield 233, 3) := dcw_180 (by decide +kernel)
theorem dX11_tell_64 : decode cX11_tell 64 = .ok (.iconst 1, 1) := dc1_4 (by decide +kernel)
theorem dX11_tell_65 : decode cX11_tell 65 = .ok (.iadd, 1) := dc1_96 (by decide +kernel)
theorem dX11_tell_66 : decode cX11_tell 66 = .ok (.putfield 233, 3) := dcw_181 (by decide +kernel)
theorem dX11_tell_69 : decode cX11_tell 69 = .ok (.aload_n 0, 1) := dc1_42 (by decide +kernel)
theorem dX11_tell_70 : decode cX11_tell 70 = .ok (.getfield 233, 3) := dcw_180 (by decide +kernel)
theorem dX11_tell_73 : decode cX11_tell 73 = .ok (.iconst 1, 1) := dc1_4 (by decide +kernel)
theorem dX11_tell_74 : decode cX11_tell 74 = .ok (.isub, 1) := dc1_100 (by decide +kernel)
theorem dX11_tell_75 : decode cX11_tell 75 = .ok (.ireturn, 1) := dc1_172 (by decide +kernel)
theorem dX11_forget_0 : decode cX11_forget 0 = .ok (.aload_n 0, 1) := dc1_42 (by decide +kernel)
theorem dX11_forget_1 : decode cX11_forget 1 = .ok (.getfield 233, 3) := dcw_180 (by decide +kernel)
theorem dX11_forget_4 : decode cX11_forget 4 = .ok (.istore_n 1, 1) := dc1_60 (by decide +kernel)
theorem dX11_forget_5 : decode cX11_forget 5 = .ok (.aload_n 0, 1) := dc1_42 (by decide +kernel)
theorem dX11_forget_6 : decode cX11_forget 6 = .ok (.iconst 0, 1) := dc1_3 (by decide +kernel)
theorem dX11_forget_7 : decode cX11_forget 7 = .ok (.putfield 233, 3) := dcw_181 (by decide +kernel)
theorem dX11_forget_10 : decode cX11_forget 10 = .ok (.iload_n 1, 1) := dc1_27 (by decide +kernel)
theorem dX11_forget_11 : decode cX11_forget 11 = .ok (.ireturn, 1) := dc1_172 (by decide +kernel)
theorem ggX11_isSo_X11_thingAt : GoodIn wsX11_isSo wsX11_thingAt := gi_sub (fun w h => List.mem_cons_of_mem _ (List.mem_append_left _ (List.mem_append_right _ h))) gd_wsX11_thingAt
set_option maxRecDepth 20000 in
theorem gX11_isSo_X11_thingAt : GoodIn wsX11_isSo (wsV RX11 330 RX11 yX11_thingAt wsX11_thingAt) := goodIn_app (goodIn_r _ [4, 5, 6, 7] (by decide +kernel) (by decide +kernel)) ggX11_isSo_X11_thingAt
theorem dX11_isSo_0 : decode cX11_isSo 0 = .ok (.aload_n 0, 1) := dc1_42 (by decide +kernel)
theorem dX11_isSo_1 : decode cX11_isSo 1 = .ok (.getfield 119, 3) := dcw_180 (by decide +kernel)
theorem dX11_isSo_4 : decode cX11_isSo 4 = .ok (.iload_n 2, 1) := dc1_28 (by decide +kernel)
theorem dX11_isSo_5 : decode cX11_isSo 5 = .ok (.iaload, 1) := dc1_46 (by decide +kernel)
theorem dX11_isSo_6 : decode cX11_isSo 6 = .ok (.aload_n 0, 1) := dc1_42 (by decide +kernel)
theorem dX11_isSo_7 : decode cX11_isSo 7 = .ok (.iload_n 1, 1) := dc1_27 (by decide +kernel)
theorem dX11_isSo_8 : decode cX11_isSo 8 = .ok (.aload_n 0, 1) := dc1_42 (by decide +kernel)
theorem dX11_isSo_9 : decode cX11_isSo 9 = .ok (.getfield 116, 3) := dcw_180 (by decide +kernel)
theorem dX11_isSo_12 : decode cX11_isSo 12 = .ok (.iload_n 2, 1) := dc1_28 (by decide +kernel)
theorem dX11_isSo_13 : decode cX11_isSo 13 = .ok (.iaload, 1) := dc1_46 (by decide +kernel)
theorem dX11_isSo_14 : decode cX11_isSo 14 = .ok (.invokevirtual 330, 3) := dcw_182 (by decide +kernel)
theorem dX11_isSo_17 : decode cX11_isSo 17 = .ok (.ishr, 1) := dc1_122 (by decide +kernel)
theorem dX11_isSo_18 : decode cX11_isSo 18 = .ok (.iconst 1, 1) := dc1_4 (by decide +kernel)
theorem dX11_isSo_19 : decode cX11_isSo 19 = .ok (.iand, 1) := dc1_126 (by decide +kernel)
theorem dX11_isSo_20 : decode cX11_isSo 20 = .ok (.iconst 1, 1) := dc1_4 (by decide +kernel)
theorem dX11_isSo_21 : decode cX11_isSo 21 = .ok (.if_icmp .ne 7, 3) := dcs_160 (n := 7) (by decide +kernel)
theorem dX11_isSo_24 : decode cX11_isSo 24 = .ok (.iconst 1, 1) := dc1_4 (by decide +kernel)
theorem dX11_isSo_25 : decode cX11_isSo 25 = .ok (.goto 4, 3) := dcs_167 (n := 4) (by decide +kernel)
theorem dX11_isSo_28 : decode cX11_isSo 28 = .ok (.iconst 0, 1) := dc1_3 (by decide +kernel)
theorem dX11_isSo_29 : decode cX11_isSo 29 = .ok (.aload_n 0, 1) := dc1_42 (by decide +kernel)
theorem dX11_isSo_30 : decode cX11_isSo 30 = .ok (.getfield 122, 3) := dcw_180 (by decide +kernel)
theorem dX11_isSo_33 : decode cX11_isSo 33 = .ok (.iload_n 2, 1) := dc1_28 (by decide +kernel)
theorem dX11_isSo_34 : decode cX11_isSo 34 = .ok (.baload, 1) := dc1_51 (by decide +kernel)
theorem dX11_isSo_35 : decode cX11_isSo 35 = .ok (.if_icmp .ne 7, 3) := dcs_160 (n := 7) (by decide +kernel)
theorem dX11_isSo_38 : decode cX11_isSo 38 = .ok (.iconst 1, 1) := dc1_4 (by decide +kernel)
theorem dX11_isSo_39 : decode cX11_isSo 39 = .ok (.goto 4, 3) := dcs_167 (n := 4) (by decide +kernel)
theorem dX11_isSo_42 : decode cX11_isSo 42 = .ok (.iconst 0, 1) := dc1_3 (by decide +kernel)
theorem dX11_isSo_43 : decode cX11_isSo 43 = .ok (.ireturn, 1) := dc1_172 (by decide +kernel)
theorem ggX11_doesFit_X11_isSo : GoodIn wsX11_doesFit wsX11_isSo := gi_sub (fun w h => List.mem_cons_of_mem _ (List.mem_append_left _ (List.mem_append_right _ h))) gd_wsX11_isSo
set_option maxRecDepth 20000 in
theorem gX11_doesFit_X11_isSo : GoodIn wsX11_doesFit (wsV RX11 419 RX11 yX11_isSo wsX11_isSo) := goodIn_app (goodIn_r _ [2, 3, 4, 5] (by decide +kernel) (by decide +kernel)) ggX11_doesFit_X11_isSo
theorem dX11_doesFit_0 : decode cX11_doesFit 0 = .ok (.aload_n 0, 1) := dc1_42 (by decide +kernel)
theorem dX11_doesFit_1 : decode cX11_doesFit 1 = .ok (.getfield 113, 3) := dcw_180 (by decide +kernel)
theorem dX11_doesFit_4 : decode cX11_doesFit 4 = .ok (.iload_n 1, 1) := dc1_27 (by decide +kernel)
theorem dX11_doesFit_5 : decode cX11_doesFit 5 = .ok (.iaload, 1) := dc1_46 (by decide +kernel)
theorem dX11_doesFit_6 : decode cX11_doesFit 6 = .ok (.ifCond .ne 5, 3) := dcs_154 (n := 5) (by decide +kernel)
theorem dX11_doesFit_9 : decode cX11_doesFit 9 = .ok (.iconst 0, 1) := dc1_3 (by decide +kernel)
theorem dX11_doesFit_10 : decode cX11_doesFit 10 = .ok (.ireturn, 1) := dc1_172 (by decide +kernel)
theorem dX11_doesFit_11 : decode cX11_doesFit 11 = .ok (.iconst 0, 1) := dc1_3 (by decide +kernel)
theorem dX11_doesFit_12 : decode cX11_doesFit 12 = .ok (.istore 4, 2) := dcu_54 (by decide +kernel)
theorem dX11_doesFit_14 : decode cX11_doesFit 14 = .ok (.iconst 0, 1) := dc1_3 (by decide +kernel)
theorem dX11_doesFit_15 : decode cX11_doesFit 15 = .ok (.istore 5, 2) := dcu_54 (by decide +kernel)
theorem dX11_doesFit_17 : decode cX11_doesFit 17 = .ok (.iload 5, 2) := dcu_21 (by decide +kernel)
theorem dX11_doesFit_19 : decode cX11_doesFit 19 = .ok (.iload_n 2, 1) := dc1_28 (by decide +kernel)
theorem dX11_doesFit_20 : decode cX11_doesFit 20 = .ok (.if_icmp .ge 22, 3) := dcs_162 (n := 22) (by decide +kernel)
theorem dX11_doesFit_23 : decode cX11_doesFit 23 = .ok (.aload_n 0, 1) := dc1_42 (by decide +kernel)
theorem dX11_doesFit_24 : decode cX11_doesFit 24 = .ok (.iload_n 1, 1) := dc1_27 (by decide +kernel)
theorem dX11_doesFit_25 : decode cX11_doesFit 25 = .ok (.iload 5, 2) := dcu_21 (by decide +kernel)
theorem dX11_doesFit_27 : decode cX11_doesFit 27 = .ok (.invokevirtual 419, 3) := dcw_182 (by decide +kernel)
theorem dX11_doesFit_30 : decode cX11_doesFit 30 = .ok (.ifCond .ne 6, 3) := dcs_154 (n := 6) (by decide +kernel)
theorem dX11_doesFit_33 : decode cX11_doesFit 33 = .ok (.iinc 4 1, 3) := dc_iinc (m := 1) (by decide +kernel)
theorem dX11_doesFit_36 : decode cX11_doesFit 36 = .ok (.iinc 5 1, 3) := dc_iinc (m := 1) (by decide +kernel)
theorem dX11_doesFit_39 : decode cX11_doesFit 39 = .ok (.goto (-22), 3) := dcs_167 (n := 65514) (by decide +kernel)
theorem dX11_doesFit_42 : decode cX11_doesFit 42 = .ok (.iload 4, 2) := dcu_21 (by decide +kernel)
theorem dX11_doesFit_44 : decode cX11_doesFit 44 = .ok (.iload_n 3, 1) := dc1_29 (by decide +kernel)
theorem dX11_doesFit_45 : decode cX11_doesFit 45 = .ok (.if_icmp .gt 7, 3) := dcs_163 (n := 7) (by decide +kernel)
theorem dX11_doesFit_48 : decode cX11_doesFit 48 = .ok (.iconst 1, 1) := dc1_4 (by decide +kernel)
theorem dX11_doesFit_49 : decode cX11_doesFit 49 = .ok (.goto 4, 3) := dcs_167 (n := 4) (by decide +kernel)
theorem dX11_doesFit_52 : decode cX11_doesFit 52 = .ok (.iconst 0, 1) := dc1_3 (by decide +kernel)
theorem dX11_doesFit_53 : decode cX11_doesFit 53 = .ok (.ireturn, 1) := dc1_172 (by decide +kernel)
theorem LX11_then_101 : Cond.fieldLink RX11 101 "GuessFerryModel" "row" "[I" ∈ wsX11_then := (List.mem_cons_of_mem _ (List.mem_append_left _ (List.mem_append_left _ (List.mem_of_getElem? (i := 0) rfl))))
theorem inX11_then_X11 : ∀ w ∈ u_ws RX11 TX11 58, w ∈ wsX11_then := fun w h => (List.mem_cons_of_mem _ (List.mem_append_right _ h))
set_option maxHeartbeats 4000000 in
set_option maxRecDepth 100000 in
theorem br_then {l : Launch} {dC : Nat → ClassId} {dI : Nat → Nat → Nat} {cB cI cJ cZ cS : ClassId} {h : Nat} {a : Nat → Nat} {as : List Value} {r : Int32} {s' : RS} (s : RS) (x1 : Int32) (x2 : Int32) (x3 : Int32) (hB : r_then s x1 x2 x3 = some (r, s')) : BlkI l yX11_then wsX11_then ({ frames := 6, cells := 0, slots := 0, locals := 130 }) cX11_then 4 (some .int) (dC, dI) (tysA cB cI cJ cZ cS) as 0 (mwS cB cI cJ cZ h a s) [(0, .ref h), (1, .int x1), (2, .int x2), (3, .int x3)] [] (fun x u => x = r ∧ u = (mwS cB cI cJ cZ h a s')) := by
  intro p e s0 m below meth c A E H locs ls hP hD hS hl
  obtain ⟨C, hr, hlocks, hA, hK, hN⟩ := id E
  obtain ⟨hx, hb, hml, hown, hts⟩ := id C
  unfold r_then at hB
  refine lv_aload_n hx hb dX11_then_0 rfl (lv_at hl 0 rfl) ?_
  refine lv_iload_n hx hb dX11_then_1 rfl (lv_at hl 1 rfl) ?_
  obtain ⟨q_, s1, hc, hB⟩ := bindI_inv hB
  refine q_goiF (va_runV (As := [.int x1]) (rest := []) C (cr_isWave hc _) (cwV 1 hts gX11_then_X11_isWave rfl rfl rfl (by decide +kernel) ⟨Nat.le_of_ble_eq_true rfl, Nat.le_of_ble_eq_true rfl⟩) (q_preV hK hP (ci := 11) (q0 := 0) rfl rfl rfl (q_preF hN hK hP hD)) rfl rfl hl.1 rfl (lv_room (Nat.le_of_ble_eq_true rfl)) dX11_then_2 ⟨Nat.le_of_ble_eq_true rfl, Nat.le_of_ble_eq_true rfl⟩) hD hS hA (fun r2 w1 H locs hw hP hD hS => ?_)
  obtain ⟨hq_, hw⟩ := hw; subst hw; subst hq_
  refine lv_if_eq (tgt := 24) hx hb dX11_then_5 (by decide) (fun c3 => ?_) (fun c3 => ?_)
  · have hB := if_p hB c3
    refine lv_iconst (v := (-1)) hx hb dX11_then_24 (by decide) ?_
    exact q_iret C hr hlocks hK hP hD hS (Nat.le_of_ble_eq_true rfl) (Nat.le_of_ble_eq_true rfl) dX11_then_25 (by cases hB; exact ⟨rfl, rfl⟩)
  · have hB := if_n hB c3
    refine lv_iload_n hx hb dX11_then_8 rfl (lv_at hl 2 rfl) ?_
    obtain ⟨q_, hc, hB⟩ := bindP_inv hB
    refine q_goi0 (va_runS (As := [.int x2]) (rest := []) C (cr_isLong hc _) (va_cwS 1 hts gX11_then_X11_isLong rfl rfl rfl (by decide +kernel) ⟨Nat.le_of_ble_eq_true rfl, Nat.le_of_ble_eq_true rfl⟩) (q_pre0 hN hK) rfl rfl hl.1 rfl (lv_room (Nat.le_of_ble_eq_true rfl)) dX11_then_9 ⟨Nat.le_of_ble_eq_true rfl, Nat.le_of_ble_eq_true rfl⟩) hP hD hS hA (fun r4 w1 H locs hw hP hS => ?_)
    subst hw
    refine lv_if_eq (tgt := 24) hx hb dX11_then_12 (by decide) (fun c5 => ?_) (fun c5 => ?_)
    · have hB := if_p hB c5
      refine lv_iconst (v := (-1)) hx hb dX11_then_24 (by decide) ?_
      exact q_iret C hr hlocks hK hP hD hS (Nat.le_of_ble_eq_true rfl) (Nat.le_of_ble_eq_true rfl) dX11_then_25 (by cases hB; exact ⟨rfl, rfl⟩)
    · have hB := if_n hB c5
      refine lv_iload_n hx hb dX11_then_15 rfl (lv_at hl 3 rfl) ?_
      refine lv_iconst (v := 0) hx hb dX11_then_16 (by decide) ?_
      refine lv_iconst (v := 2) hx hb dX11_then_17 (by decide) ?_
      obtain ⟨q_, hc, hB⟩ := bindP_inv hB
      refine q_goi0 (va_runS (As := [.int x3, .int 0, .int 2]) (rest := []) C (cr_in hc _) (va_cwS 3 hts gX11_then_X11_in rfl rfl rfl (by decide +kernel) ⟨Nat.le_of_ble_eq_true rfl, Nat.le_of_ble_eq_true rfl⟩) (q_pre0 hN hK) rfl rfl hl.1 rfl (lv_room (Nat.le_of_ble_eq_true rfl)) dX11_then_18 ⟨Nat.le_of_ble_eq_true rfl, Nat.le_of_ble_eq_true rfl⟩) hP hD hS hA (fun r6 w1 H locs hw hP hS => ?_)
      subst hw
      refine lv_if_ne (tgt := 26) hx hb dX11_then_21 (by decide) (fun c7 => ?_) (fun c7 => ?_)
      · have hB := if_n hB c7
        refine lv_aload_n hx hb dX11_then_26 rfl (lv_at hl 0 rfl) ?_
        obtain ⟨s8, hc, hB⟩ := bindP_inv hB
        refine q_govF (va_runV (As := []) (rest := []) C (cr_copies hc _) (cwV 0 hts gX11_then_X11_copies rfl rfl rfl (by decide +kernel) ⟨Nat.le_of_ble_eq_true rfl, Nat.le_of_ble_eq_true rfl⟩) (q_preV hK hP (ci := 11) (q0 := 0) rfl rfl rfl (q_preF hN hK hP hD)) rfl rfl hl.1 rfl (lv_room (Nat.le_of_ble_eq_true rfl)) dX11_then_27 ⟨Nat.le_of_ble_eq_true rfl, Nat.le_of_ble_eq_true rfl⟩) hD hS hA (fun w1 H locs hw hP hD hS => ?_)
        subst hw
        refine lv_aload_n hx hb dX11_then_30 rfl (lv_at hl 0 rfl) ?_
        refine lv_iload_n hx hb dX11_then_31 rfl (lv_at hl 2 rfl) ?_
        obtain ⟨s9, hc, hB⟩ := bindP_inv hB
        refine q_govF (va_runV (As := [.int x2]) (rest := []) C (cr_yearsGo hc _) (cwV 1 hts gX11_then_X11_yearsGo rfl rfl rfl (by decide +kernel) ⟨Nat.le_of_ble_eq_true rfl, Nat.le_of_ble_eq_true rfl⟩) (q_preV hK hP (ci := 11) (q0 := 0) rfl rfl rfl (q_preF hN hK hP hD)) rfl rfl hl.1 rfl (lv_room (Nat.le_of_ble_eq_true rfl)) dX11_then_32 ⟨Nat.le_of_ble_eq_true rfl, Nat.le_of_ble_eq_true rfl⟩) hD hS hA (fun w1 H locs hw hP hD hS => ?_)
        subst hw
        refine lv_iload_n hx hb dX11_then_35 rfl (lv_at hl 3 rfl) ?_
        refine lv_if_ne (tgt := 47) hx hb dX11_then_36 (by decide) (fun c10 => ?_) (fun c10 => ?_)
        · have hB := if_n hB c10
          refine lv_iload_n hx hb dX11_then_47 rfl (lv_at hl 3 rfl) ?_
          refine lv_iconst (v := 1) hx hb dX11_then_48 (by decide) ?_
          refine lv_icmp_ne (tgt := 64) hx hb dX11_then_49 (by decide) (fun c11 => ?_) (fun c11 => ?_)
          · have hB := if_n hB c11
            refine lv_aload_n hx hb dX11_then_64 rfl (lv_at hl 0 rfl) ?_
            refine lv_iload_n hx hb dX11_then_65 rfl (lv_at hl 1 rfl) ?_
            obtain ⟨q_, s12, hc, hB⟩ := bindI_inv hB
            refine q_goiF (va_runV (As := [.int x1]) (rest := []) C (cr_thereAt hc _) (cwV 1 hts gX11_then_X11_thereAt rfl rfl rfl (by decide +kernel) ⟨Nat.le_of_ble_eq_true rfl, Nat.le_of_ble_eq_true rfl⟩) (q_preV hK hP (ci := 11) (q0 := 0) rfl rfl rfl (q_preF hN hK hP hD)) rfl rfl hl.1 rfl (lv_room (Nat.le_of_ble_eq_true rfl)) dX11_then_66 ⟨Nat.le_of_ble_eq_true rfl, Nat.le_of_ble_eq_true rfl⟩) hD hS hA (fun r13 w1 H locs hw hP hD hS => ?_)
            obtain ⟨hq_, hw⟩ := hw; subst hw; subst hq_
            exact q_iret C hr hlocks hK hP hD hS (Nat.le_of_ble_eq_true rfl) (Nat.le_of_ble_eq_true rfl) dX11_then_69 (by cases hB; exact ⟨rfl, rfl⟩)
          · have hB := if_p hB c11
            refine lv_aload_n hx hb dX11_then_52 rfl (lv_at hl 0 rfl) ?_
            refine q_get (v := .ref (a 44)) C inX11_then_X11 hK hP 0 rfl rfl 44 (by decide) rfl LX11_then_101 rfl dX11_then_53 ?_
            refine lv_bipush (v := 10) hx hb dX11_then_56 (by decide) ?_
            refine lv_iload_n hx hb dX11_then_58 rfl (lv_at hl 1 rfl) ?_
            refine lv_iadd hx hb dX11_then_59 ?_
            obtain ⟨g14, hB⟩ := guard_inv hB
            refine q_iald (x := (s9.f 44 (Int32.toNatClampNeg (10 + x1)))) C hK hP 28 1 rfl rfl (vpb_in g14) dX11_then_60 rfl ?_
            refine lv_goto (tgt := 69) hx hb dX11_then_61 (by decide) ?_
            exact q_iret C hr hlocks hK hP hD hS (Nat.le_of_ble_eq_true rfl) (Nat.le_of_ble_eq_true rfl) dX11_then_69 (by cases hB; exact ⟨rfl, rfl⟩)
        · have hB := if_p hB c10
          refine lv_aload_n hx hb dX11_then_39 rfl (lv_at hl 0 rfl) ?_
          refine lv_iload_n hx hb dX11_then_40 rfl (lv_at hl 1 rfl) ?_
          obtain ⟨q_, s15, hc, hB⟩ := bindI_inv hB
          refine q_goiF (va_runV (As := [.int x1]) (rest := []) C (cr_mayAt hc _) (cwV 1 hts gX11_then_X11_mayAt rfl rfl rfl (by decide +kernel) ⟨Nat.le_of_ble_eq_true rfl, Nat.le_of_ble_eq_true rfl⟩) (q_preV hK hP (ci := 11) (q0 := 0) rfl rfl rfl (q_preF hN hK hP hD)) rfl rfl hl.1 rfl (lv_room (Nat.le_of_ble_eq_true rfl)) dX11_then_41 ⟨Nat.le_of_ble_eq_true rfl, Nat.le_of_ble_eq_true rfl⟩) hD hS hA (fun r16 w1 H locs hw hP hD hS => ?_)
          obtain ⟨hq_, hw⟩ := hw; subst hw; subst hq_
          refine lv_goto (tgt := 69) hx hb dX11_then_44 (by decide) ?_
          exact q_iret C hr hlocks hK hP hD hS (Nat.le_of_ble_eq_true rfl) (Nat.le_of_ble_eq_true rfl) dX11_then_69 (by cases hB; exact ⟨rfl, rfl⟩)
      · have hB := if_p hB c7
        refine lv_iconst (v := (-1)) hx hb dX11_then_24 (by decide) ?_
        exact q_iret C hr hlocks hK hP hD hS (Nat.le_of_ble_eq_true rfl) (Nat.le_of_ble_eq_true rfl) dX11_then_25 (by cases hB; exact ⟨rfl, rfl⟩)
theorem cr_then {l : Launch} {dC : Nat → ClassId} {dI : Nat → Nat → Nat} {cB cI cJ cZ cS : ClassId} {h : Nat} {a : Nat → Nat} {r : Int32} {s' : RS} {s : RS} {x1 : Int32} {x2 : Int32} {x3 : Int32} (hB : r_then s x1 x2 x3 = some (r, s')) : CI l yX11_then wsX11_then ({ frames := 6, cells := 0, slots := 0, locals := 130 }) (dC, dI) (tysA cB cI cJ cZ cS) (mwS cB cI cJ cZ h a s) [.ref h, .int x1, .int x2, .int x3] (fun x u => x = r ∧ u = (mwS cB cI cJ cZ h a s')) :=
  CI_of (cc := cX11_then) (maxL := 4) (ret := (some .int)) (by decide) rfl (Nat.le_of_ble_eq_true rfl) (br_then _ _ _ _ hB)
theorem LX11_next_101 : Cond.fieldLink RX11 101 "GuessFerryModel" "row" "[I" ∈ wsX11_next := (List.mem_cons_of_mem _ (List.mem_append_left _ (List.mem_append_left _ (List.mem_of_getElem? (i := 0) rfl))))
theorem LX11_next_98 : Cond.fieldLink RX11 98 "GuessFerryModel" "now" "[I" ∈ wsX11_next := (List.mem_cons_of_mem _ (List.mem_append_left _ (List.mem_append_left _ (List.mem_of_getElem? (i := 1) rfl))))
theorem inX11_next_X11 : ∀ w ∈ u_ws RX11 TX11 58, w ∈ wsX11_next := fun w h => (List.mem_cons_of_mem _ (List.mem_append_right _ h))
set_option maxHeartbeats 4000000 in
set_option maxRecDepth 100000 in
theorem br_next_16 {l : Launch} {dC : Nat → ClassId} {dI : Nat → Nat → Nat} {cB cI cJ cZ cS : ClassId} {h : Nat} {a : Nat → Nat} {as : List Value} {r : Int32} {s' : RS} {k16 : RS → Int32 → Int32 → Option (Int32 × RS)} (hk16 : ∀ (s : RS) (x1 : Int32) (x2 : Int32), k16 s x1 x2 = some (r, s') → BlkI l yX11_next wsX11_next ({ frames := 5, cells := 0, slots := 0, locals := 108 }) cX11_next 3 (some .int) (dC, dI) (tysA cB cI cJ cZ cS) as 16 (mwS cB cI cJ cZ h a s) [(0, .ref h), (1, .int x1), (2, .int x2)] [] (fun x u => x = r ∧ u = (mwS cB cI cJ cZ h a s'))) (s : RS) (x1 : Int32) (x2 : Int32) (hB : r_next_16 k16 s x1 x2 = some (r, s')) : BlkI l yX11_next wsX11_next ({ frames := 5, cells := 0, slots := 0, locals := 108 }) cX11_next 3 (some .int) (dC, dI) (tysA cB cI cJ cZ cS) as 16 (mwS cB cI cJ cZ h a s) [(0, .ref h), (1, .int x1), (2, .int x2)] [] (fun x u => x = r ∧ u = (mwS cB cI cJ cZ h a s')) := by
  intro p e s0 m below meth c A E H locs ls hP hD hS hl
  obtain ⟨C, hr, hlocks, hA, hK, hN⟩ := id E
  obtain ⟨hx, hb, hml, hown, hts⟩ := id C
  unfold r_next_16 at hB
  refine lv_iload_n hx hb dX11_next_16 rfl (lv_at hl 2 rfl) ?_
  refine lv_bipush (v := 40) hx hb dX11_next_17 (by decide) ?_
  refine lv_icmp_gt (tgt := 55) hx hb dX11_next_19 (by decide) (fun c1 => ?_) (fun c1 => ?_)
  · have hB := if_p hB c1
    refine lv_bipush (v := (-2)) hx hb dX11_next_55 (by decide) ?_
    exact q_iret C hr hlocks hK hP hD hS (Nat.le_of_ble_eq_true rfl) (Nat.le_of_ble_eq_true rfl) dX11_next_57 (by cases hB; exact ⟨rfl, rfl⟩)
  · have hB := if_n hB c1
    refine lv_aload_n hx hb dX11_next_22 rfl (lv_at hl 0 rfl) ?_
    obtain ⟨s2, hc, hB⟩ := bindP_inv hB
    refine q_govF (va_runV (As := []) (rest := []) C (cr_yearGoes hc _) (cwV 0 hts gX11_next_X11_yearGoes rfl rfl rfl (by decide +kernel) ⟨Nat.le_of_ble_eq_true rfl, Nat.le_of_ble_eq_true rfl⟩) (q_preV hK hP (ci := 11) (q0 := 0) rfl rfl rfl (q_preF hN hK hP hD)) rfl rfl hl.1 rfl (lv_room (Nat.le_of_ble_eq_true rfl)) dX11_next_23 ⟨Nat.le_of_ble_eq_true rfl, Nat.le_of_ble_eq_true rfl⟩) hD hS hA (fun w1 H locs hw hP hD hS => ?_)
    subst hw
    refine lv_aload_n hx hb dX11_next_26 rfl (lv_at hl 0 rfl) ?_
    refine q_get (v := .ref (a 44)) C inX11_next_X11 hK hP 0 rfl rfl 44 (by decide) rfl LX11_next_101 rfl dX11_next_27 ?_
    refine lv_bipush (v := 10) hx hb dX11_next_30 (by decide) ?_
    refine lv_iload_n hx hb dX11_next_32 rfl (lv_at hl 1 rfl) ?_
    refine lv_iadd hx hb dX11_next_33 ?_
    obtain ⟨g3, hB⟩ := guard_inv hB
    refine q_iald (x := (s2.f 44 (Int32.toNatClampNeg (10 + x1)))) C hK hP 28 1 rfl rfl (vpb_in g3) dX11_next_34 rfl ?_
    refine lv_aload_n hx hb dX11_next_35 rfl (lv_at hl 0 rfl) ?_
    refine q_get (v := .ref (a 43)) C inX11_next_X11 hK hP 0 rfl rfl 43 (by decide) rfl LX11_next_98 rfl dX11_next_36 ?_
    refine lv_bipush (v := 10) hx hb dX11_next_39 (by decide) ?_
    refine lv_iload_n hx hb dX11_next_41 rfl (lv_at hl 1 rfl) ?_
    refine lv_iadd hx hb dX11_next_42 ?_
    obtain ⟨g4, hB⟩ := guard_inv hB
    refine q_iald (x := (s2.f 43 (Int32.toNatClampNeg (10 + x1)))) C hK hP 27 1 rfl rfl (vpb_in g4) dX11_next_43 rfl ?_
    refine lv_icmp_le (tgt := 49) hx hb dX11_next_44 (by decide) (fun c5 => ?_) (fun c5 => ?_)
    · have hB := if_p hB c5
      refine lv_iinc (v := (x2 + 1)) (lv' := [(2, .int (x2 + 1)), (0, .ref h), (1, .int x1)]) hx hb dX11_next_49 hl (k := 2) rfl (rfl) (by decide) rfl (fun ls hl => ?_)
      refine lv_goto (tgt := 16) hx hb dX11_next_52 (by decide) ?_
      exact hk16 _ _ _ hB p e s0 m below meth c A E H locs ls hP hD hS (lv_sub hl [1, 2, 0] rfl)
    · have hB := if_n hB c5
      refine lv_iload_n hx hb dX11_next_47 rfl (lv_at hl 2 rfl) ?_
      exact q_iret C hr hlocks hK hP hD hS (Nat.le_of_ble_eq_true rfl) (Nat.le_of_ble_eq_true rfl) dX11_next_48 (by cases hB; exact ⟨rfl, rfl⟩)
theorem br_next_16L {l : Launch} {dC : Nat → ClassId} {dI : Nat → Nat → Nat} {cB cI cJ cZ cS : ClassId} {h : Nat} {a : Nat → Nat} {as : List Value} {r : Int32} {s' : RS} : ∀ (n : Nat) (s : RS) (x1 : Int32) (x2 : Int32), r_next_16L n s x1 x2 = some (r, s') → BlkI l yX11_next wsX11_next ({ frames := 5, cells := 0, slots := 0, locals := 108 }) cX11_next 3 (some .int) (dC, dI) (tysA cB cI cJ cZ cS) as 16 (mwS cB cI cJ cZ h a s) [(0, .ref h), (1, .int x1), (2, .int x2)] [] (fun x u => x = r ∧ u = (mwS cB cI cJ cZ h a s')) := by
  intro n
  induction n with
  | zero => intro s x1 x2 hB; exact none_ne hB
  | succ n ih => intro s x1 x2 hB; exact br_next_16 ih _ _ _ hB
set_option maxHeartbeats 4000000 in
set_option maxRecDepth 100000 in
theorem br_next {l : Launch} {dC : Nat → ClassId} {dI : Nat → Nat → Nat} {cB cI cJ cZ cS : ClassId} {h : Nat} {a : Nat → Nat} {as : List Value} {r : Int32} {s' : RS} (s : RS) (x1 : Int32) (hB : r_next s x1 = some (r, s')) : BlkI l yX11_next wsX11_next ({ frames := 5, cells := 0, slots := 0, locals := 108 }) cX11_next 3 (some .int) (dC, dI) (tysA cB cI cJ cZ cS) as 0 (mwS cB cI cJ cZ h a s) [(0, .ref h), (1, .int x1)] [] (fun x u => x = r ∧ u = (mwS cB cI cJ cZ h a s')) := by
  intro p e s0 m below meth c A E H locs ls hP hD hS hl
  obtain ⟨C, hr, hlocks, hA, hK, hN⟩ := id E
  obtain ⟨hx, hb, hml, hown, hts⟩ := id C
  unfold r_next at hB
  refine lv_aload_n hx hb dX11_next_0 rfl (lv_at hl 0 rfl) ?_
  refine lv_iload_n hx hb dX11_next_1 rfl (lv_at hl 1 rfl) ?_
  obtain ⟨q_, s1, hc, hB⟩ := bindI_inv hB
  refine q_goiF (va_runV (As := [.int x1]) (rest := []) C (cr_isWave hc _) (cwV 1 hts gX11_next_X11_isWave rfl rfl rfl (by decide +kernel) ⟨Nat.le_of_ble_eq_true rfl, Nat.le_of_ble_eq_true rfl⟩) (q_preV hK hP (ci := 11) (q0 := 0) rfl rfl rfl (q_preF hN hK hP hD)) rfl rfl hl.1 rfl (lv_room (Nat.le_of_ble_eq_true rfl)) dX11_next_2 ⟨Nat.le_of_ble_eq_true rfl, Nat.le_of_ble_eq_true rfl⟩) hD hS hA (fun r2 w1 H locs hw hP hD hS => ?_)
  obtain ⟨hq_, hw⟩ := hw; subst hw; subst hq_
  refine lv_if_ne (tgt := 10) hx hb dX11_next_5 (by decide) (fun c3 => ?_) (fun c3 => ?_)
  · have hB := if_n hB c3
    refine lv_aload_n hx hb dX11_next_10 rfl (lv_at hl 0 rfl) ?_
    obtain ⟨s4, hc, hB⟩ := bindP_inv hB
    refine q_govF (va_runV (As := []) (rest := []) C (cr_copies hc _) (cwV 0 hts gX11_next_X11_copies rfl rfl rfl (by decide +kernel) ⟨Nat.le_of_ble_eq_true rfl, Nat.le_of_ble_eq_true rfl⟩) (q_preV hK hP (ci := 11) (q0 := 0) rfl rfl rfl (q_preF hN hK hP hD)) rfl rfl hl.1 rfl (lv_room (Nat.le_of_ble_eq_true rfl)) dX11_next_11 ⟨Nat.le_of_ble_eq_true rfl, Nat.le_of_ble_eq_true rfl⟩) hD hS hA (fun w1 H locs hw hP hD hS => ?_)
    subst hw
    refine lv_iconst (v := 1) hx hb dX11_next_14 (by decide) ?_
    refine lv_istore_n (lv' := [(2, .int 1), (0, .ref h), (1, .int x1)]) hx hb dX11_next_15 rfl hl (by decide) rfl (fun ls hl => ?_)
    exact br_next_16L fu _ _ _ hB p e s0 m below meth c A E H locs ls hP hD hS (lv_sub hl [1, 2, 0] rfl)
  · have hB := if_p hB c3
    refine lv_iconst (v := (-1)) hx hb dX11_next_8 (by decide) ?_
    exact q_iret C hr hlocks hK hP hD hS (Nat.le_of_ble_eq_true rfl) (Nat.le_of_ble_eq_true rfl) dX11_next_9 (by cases hB; exact ⟨rfl, rfl⟩)
theorem cr_next {l : Launch} {dC : Nat → ClassId} {dI : Nat → Nat → Nat} {cB cI cJ cZ cS : ClassId} {h : Nat} {a : Nat → Nat} {r : Int32} {s' : RS} {s : RS} {x1 : Int32} (hB : r_next s x1 = some (r, s')) : CI l yX11_next wsX11_next ({ frames := 5, cells := 0, slots := 0, locals := 108 }) (dC, dI) (tysA cB cI cJ cZ cS) (mwS cB cI cJ cZ h a s) [.ref h, .int x1] (fun x u => x = r ∧ u = (mwS cB cI cJ cZ h a s')) :=
  CI_of (cc := cX11_next) (maxL := 3) (ret := (some .int)) (by decide) rfl (Nat.le_of_ble_eq_true rfl) (br_next _ _ hB)
theorem LX11_year_289 : Cond.fieldLink RX11 289 "GuessFerryModel" "lots" "I" ∈ wsX11_year := (List.mem_cons_of_mem _ (List.mem_append_left _ (List.mem_append_left _ (List.mem_of_getElem? (i := 0) rfl))))
theorem inX11_year_X11 : ∀ w ∈ u_ws RX11 TX11 58, w ∈ wsX11_year := fun w h => (List.mem_cons_of_mem _ (List.mem_append_right _ h))
set_option maxHeartbeats 4000000 in
set_option maxRecDepth 100000 in
theorem br_year_46 {l : Launch} {dC : Nat → ClassId} {dI : Nat → Nat → Nat} {cB cI cJ cZ cS : ClassId} {h : Nat} {a : Nat → Nat} {as : List Value} {r : Int32} {s' : RS} {k29 : RS → Int32 → Int32 → Int32 → Int32 → Option (Int32 × RS)} (hk29 : ∀ (s : RS) (x1 : Int32) (x2 : Int32) (x3 : Int32) (x4 : Int32), k29 s x1 x2 x3 x4 = some (r, s') → BlkI l yX11_year wsX11_year ({ frames := 4, cells := 0, slots := 0, locals := 90 }) cX11_year 5 (some .int) (dC, dI) (tysA cB cI cJ cZ cS) as 29 (mwS cB cI cJ cZ h a s) [(0, .ref h), (1, .int x1), (2, .int x2), (3, .int x3), (4, .int x4)] [] (fun x u => x = r ∧ u = (mwS cB cI cJ cZ h a s'))) (s : RS) (x1 : Int32) (x2 : Int32) (x3 : Int32) (x4 : Int32) (hB : r_year_46 k29 s x1 x2 x3 x4 = some (r, s')) : BlkI l yX11_year wsX11_year ({ frames := 4, cells := 0, slots := 0, locals := 90 }) cX11_year 5 (some .int) (dC, dI) (tysA cB cI cJ cZ cS) as 46 (mwS cB cI cJ cZ h a s) [(0, .ref h), (1, .int x1), (2, .int x2), (3, .int x3), (4, .int x4)] [] (fun x u => x = r ∧ u = (mwS cB cI cJ cZ h a s')) := by
  intro p e s0 m below meth c A E H locs ls hP hD hS hl
  obtain ⟨C, hr, hlocks, hA, hK, hN⟩ := id E
  obtain ⟨hx, hb, hml, hown, hts⟩ := id C
  unfold r_year_46 at hB
  refine lv_aload_n hx hb dX11_year_46 rfl (lv_at hl 0 rfl) ?_
  refine lv_dup hx hb dX11_year_47 rfl ?_
  refine q_get (v := .int (s.v 45)) C inX11_year_X11 hK hP 0 rfl rfl 45 (by decide) rfl LX11_year_289 rfl dX11_year_48 ?_
  refine lv_iconst (v := 1) hx hb dX11_year_51 (by decide) ?_
  refine lv_iadd hx hb dX11_year_52 ?_
  obtain ⟨s1, hs2, hB⟩ := letS_inv hB
  refine q_put (ty := .int) (w2 := (mwS cB cI cJ cZ h a s1)) tyX11 tyX11_ok nmX11 C inX11_year_X11 hK hP hD hS 0 rfl rfl 45 (by decide) rfl LX11_year_289 rfl (by decide +kernel) (rfl) rfl (Nat.le_of_ble_eq_true rfl) dX11_year_53 (mwS_v45 hs2) (fun H locs hP hD hS => ?_)
  refine lv_iinc (v := (x4 + 1)) (lv' := [(4, .int (x4 + 1)), (0, .ref h), (1, .int x1), (2, .int x2), (3, .int x3)]) hx hb dX11_year_56 hl (k := 4) rfl (rfl) (by decide) rfl (fun ls hl => ?_)
  refine lv_goto (tgt := 29) hx hb dX11_year_59 (by decide) ?_
  exact hk29 _ _ _ _ _ hB p e s0 m below meth c A E H locs ls hP hD hS (lv_sub hl [1, 2, 3, 4, 0] rfl)
set_option maxHeartbeats 4000000 in
set_option maxRecDepth 100000 in
theorem br_year_29 {l : Launch} {dC : Nat → ClassId} {dI : Nat → Nat → Nat} {cB cI cJ cZ cS : ClassId} {h : Nat} {a : Nat → Nat} {as : List Value} {r : Int32} {s' : RS} {k29 : RS → Int32 → Int32 → Int32 → Int32 → Option (Int32 × RS)} (hk29 : ∀ (s : RS) (x1 : Int32) (x2 : Int32) (x3 : Int32) (x4 : Int32), k29 s x1 x2 x3 x4 = some (r, s') → BlkI l yX11_year wsX11_year ({ frames := 4, cells := 0, slots := 0, locals := 90 }) cX11_year 5 (some .int) (dC, dI) (tysA cB cI cJ cZ cS) as 29 (mwS cB cI cJ cZ h a s) [(0, .ref h), (1, .int x1), (2, .int x2), (3, .int x3), (4, .int x4)] [] (fun x u => x = r ∧ u = (mwS cB cI cJ cZ h a s'))) (s : RS) (x1 : Int32) (x2 : Int32) (x3 : Int32) (x4 : Int32) (hB : r_year_29 k29 s x1 x2 x3 x4 = some (r, s')) : BlkI l yX11_year wsX11_year ({ frames := 4, cells := 0, slots := 0, locals := 90 }) cX11_year 5 (some .int) (dC, dI) (tysA cB cI cJ cZ cS) as 29 (mwS cB cI cJ cZ h a s) [(0, .ref h), (1, .int x1), (2, .int x2), (3, .int x3), (4, .int x4)] [] (fun x u => x = r ∧ u = (mwS cB cI cJ cZ h a s')) := by
  intro p e s0 m below meth c A E H locs ls hP hD hS hl
  obtain ⟨C, hr, hlocks, hA, hK, hN⟩ := id E
  obtain ⟨hx, hb, hml, hown, hts⟩ := id C
  unfold r_year_29 at hB
  refine lv_iload hx hb dX11_year_29 (lv_at hl 4 rfl) ?_
  refine lv_iload_n hx hb dX11_year_31 rfl (lv_at hl 2 rfl) ?_
  refine lv_icmp_ge (tgt := 62) hx hb dX11_year_32 (by decide) (fun c1 => ?_) (fun c1 => ?_)
  · have hB := if_p hB c1
    refine lv_iload_n hx hb dX11_year_62 rfl (lv_at hl 3 rfl) ?_
    exact q_iret C hr hlocks hK hP hD hS (Nat.le_of_ble_eq_true rfl) (Nat.le_of_ble_eq_true rfl) dX11_year_63 (by cases hB; exact ⟨rfl, rfl⟩)
  · have hB := if_n hB c1
    refine lv_aload_n hx hb dX11_year_35 rfl (lv_at hl 0 rfl) ?_
    obtain ⟨q_, s2, hc, hB⟩ := bindI_inv hB
    refine q_goiF (va_runV (As := []) (rest := []) C (cr_thereNumber hc _) (cwV 0 hts gX11_year_X11_thereNumber rfl rfl rfl (by decide +kernel) ⟨Nat.le_of_ble_eq_true rfl, Nat.le_of_ble_eq_true rfl⟩) (q_preV hK hP (ci := 11) (q0 := 0) rfl rfl rfl (q_preF hN hK hP hD)) rfl rfl hl.1 rfl (lv_room (Nat.le_of_ble_eq_true rfl)) dX11_year_36 ⟨Nat.le_of_ble_eq_true rfl, Nat.le_of_ble_eq_true rfl⟩) hD hS hA (fun r3 w1 H locs hw hP hD hS => ?_)
    obtain ⟨hq_, hw⟩ := hw; subst hw; subst hq_
    refine lv_iload_n hx hb dX11_year_39 rfl (lv_at hl 1 rfl) ?_
    refine lv_icmp_ne (tgt := 46) hx hb dX11_year_40 (by decide) (fun c4 => ?_) (fun c4 => ?_)
    · have hB := if_n hB c4
      exact br_year_46 (hk29) _ _ _ _ _ hB p e s0 m below meth c A E H locs ls hP hD hS (lv_sub hl [0, 1, 2, 3, 4] rfl)
    · have hB := if_p hB c4
      refine lv_iinc (v := (x3 + 1)) (lv' := [(3, .int (x3 + 1)), (0, .ref h), (1, .int x1), (2, .int x2), (4, .int x4)]) hx hb dX11_year_43 hl (k := 3) rfl (rfl) (by decide) rfl (fun ls hl => ?_)
      exact br_year_46 (hk29) _ _ _ _ _ hB p e s0 m below meth c A E H locs ls hP hD hS (lv_sub hl [1, 2, 3, 0, 4] rfl)
theorem br_year_29L {l : Launch} {dC : Nat → ClassId} {dI : Nat → Nat → Nat} {cB cI cJ cZ cS : ClassId} {h : Nat} {a : Nat → Nat} {as : List Value} {r : Int32} {s' : RS} : ∀ (n : Nat) (s : RS) (x1 : Int32) (x2 : Int32) (x3 : Int32) (x4 : Int32), r_year_29L n s x1 x2 x3 x4 = some (r, s') → BlkI l yX11_year wsX11_year ({ frames := 4, cells := 0, slots := 0, locals := 90 }) cX11_year 5 (some .int) (dC, dI) (tysA cB cI cJ cZ cS) as 29 (mwS cB cI cJ cZ h a s) [(0, .ref h), (1, .int x1), (2, .int x2), (3, .int x3), (4, .int x4)] [] (fun x u => x = r ∧ u = (mwS cB cI cJ cZ h a s')) := by
  intro n
  induction n with
  | zero => intro s x1 x2 x3 x4 hB; exact none_ne hB
  | succ n ih => intro s x1 x2 x3 x4 hB; exact br_year_29 ih _ _ _ _ _ hB
set_option maxHeartbeats 4000000 in
set_option maxRecDepth 100000 in
theorem br_year {l : Launch} {dC : Nat → ClassId} {dI : Nat → Nat → Nat} {cB cI cJ cZ cS : ClassId} {h : Nat} {a : Nat → Nat} {as : List Value} {r : Int32} {s' : RS} (s : RS) (x1 : Int32) (x2 : Int32) (hB : r_year s x1 x2 = some (r, s')) : BlkI l yX11_year wsX11_year ({ frames := 4, cells := 0, slots := 0, locals := 90 }) cX11_year 5 (some .int) (dC, dI) (tysA cB cI cJ cZ cS) as 0 (mwS cB cI cJ cZ h a s) [(0, .ref h), (1, .int x1), (2, .int x2)] [] (fun x u => x = r ∧ u = (mwS cB cI cJ cZ h a s')) := by
  intro p e s0 m below meth c A E H locs ls hP hD hS hl
  obtain ⟨C, hr, hlocks, hA, hK, hN⟩ := id E
  obtain ⟨hx, hb, hml, hown, hts⟩ := id C
  unfold r_year at hB
  refine lv_aload_n hx hb dX11_year_0 rfl (lv_at hl 0 rfl) ?_
  refine lv_iload_n hx hb dX11_year_1 rfl (lv_at hl 1 rfl) ?_
  obtain ⟨q_, s1, hc, hB⟩ := bindI_inv hB
  refine q_goiF (va_runV (As := [.int x1]) (rest := []) C (cr_isGuess hc _) (cwV 1 hts gX11_year_X11_isGuess rfl rfl rfl (by decide +kernel) ⟨Nat.le_of_ble_eq_true rfl, Nat.le_of_ble_eq_true rfl⟩) (q_preV hK hP (ci := 11) (q0 := 0) rfl rfl rfl (q_preF hN hK hP hD)) rfl rfl hl.1 rfl (lv_room (Nat.le_of_ble_eq_true rfl)) dX11_year_2 ⟨Nat.le_of_ble_eq_true rfl, Nat.le_of_ble_eq_true rfl⟩) hD hS hA (fun r2 w1 H locs hw hP hD hS => ?_)
  obtain ⟨hq_, hw⟩ := hw; subst hw; subst hq_
  refine lv_if_eq (tgt := 18) hx hb dX11_year_5 (by decide) (fun c3 => ?_) (fun c3 => ?_)
  · have hB := if_p hB c3
    refine lv_iconst (v := (-1)) hx hb dX11_year_18 (by decide) ?_
    exact q_iret C hr hlocks hK hP hD hS (Nat.le_of_ble_eq_true rfl) (Nat.le_of_ble_eq_true rfl) dX11_year_19 (by cases hB; exact ⟨rfl, rfl⟩)
  · have hB := if_n hB c3
    refine lv_iload_n hx hb dX11_year_8 rfl (lv_at hl 2 rfl) ?_
    refine lv_iconst (v := 1) hx hb dX11_year_9 (by decide) ?_
    refine lv_bipush (v := 20) hx hb dX11_year_10 (by decide) ?_
    obtain ⟨q_, hc, hB⟩ := bindP_inv hB
    refine q_goi0 (va_runS (As := [.int x2, .int 1, .int 20]) (rest := []) C (cr_in hc _) (va_cwS 3 hts gX11_year_X11_in rfl rfl rfl (by decide +kernel) ⟨Nat.le_of_ble_eq_true rfl, Nat.le_of_ble_eq_true rfl⟩) (q_pre0 hN hK) rfl rfl hl.1 rfl (lv_room (Nat.le_of_ble_eq_true rfl)) dX11_year_12 ⟨Nat.le_of_ble_eq_true rfl, Nat.le_of_ble_eq_true rfl⟩) hP hD hS hA (fun r4 w1 H locs hw hP hS => ?_)
    subst hw
    refine lv_if_ne (tgt := 20) hx hb dX11_year_15 (by decide) (fun c5 => ?_) (fun c5 => ?_)
    · have hB := if_n hB c5
      refine lv_aload_n hx hb dX11_year_20 rfl (lv_at hl 0 rfl) ?_
      obtain ⟨s6, hc, hB⟩ := bindP_inv hB
      refine q_govF (va_runV (As := []) (rest := []) C (cr_copies hc _) (cwV 0 hts gX11_year_X11_copies rfl rfl rfl (by decide +kernel) ⟨Nat.le_of_ble_eq_true rfl, Nat.le_of_ble_eq_true rfl⟩) (q_preV hK hP (ci := 11) (q0 := 0) rfl rfl rfl (q_preF hN hK hP hD)) rfl rfl hl.1 rfl (lv_room (Nat.le_of_ble_eq_true rfl)) dX11_year_21 ⟨Nat.le_of_ble_eq_true rfl, Nat.le_of_ble_eq_true rfl⟩) hD hS hA (fun w1 H locs hw hP hD hS => ?_)
      subst hw
      refine lv_iconst (v := 0) hx hb dX11_year_24 (by decide) ?_
      refine lv_istore_n (lv' := [(3, .int 0), (0, .ref h), (1, .int x1), (2, .int x2)]) hx hb dX11_year_25 rfl hl (by decide) rfl (fun ls hl => ?_)
      refine lv_iconst (v := 0) hx hb dX11_year_26 (by decide) ?_
      refine lv_istore (lv' := [(4, .int 0), (3, .int 0), (0, .ref h), (1, .int x1), (2, .int x2)]) hx hb dX11_year_27 hl (by decide) rfl (fun ls hl => ?_)
      exact br_year_29L fu _ _ _ _ _ hB p e s0 m below meth c A E H locs ls hP hD hS (lv_sub hl [2, 3, 4, 1, 0] rfl)
    · have hB := if_p hB c5
      refine lv_iconst (v := (-1)) hx hb dX11_year_18 (by decide) ?_
      exact q_iret C hr hlocks hK hP hD hS (Nat.le_of_ble_eq_true rfl) (Nat.le_of_ble_eq_true rfl) dX11_year_19 (by cases hB; exact ⟨rfl, rfl⟩)
theorem cr_year {l : Launch} {dC : Nat → ClassId} {dI : Nat → Nat → Nat} {cB cI cJ cZ cS : ClassId} {h : Nat} {a : Nat → Nat} {r : Int32} {s' : RS} {s : RS} {x1 : Int32} {x2 : Int32} (hB : r_year s x1 x2 = some (r, s')) : CI l yX11_year wsX11_year ({ frames := 4, cells := 0, slots := 0, locals := 90 }) (dC, dI) (tysA cB cI cJ cZ cS) (mwS cB cI cJ cZ h a s) [.ref h, .int x1, .int x2] (fun x u => x = r ∧ u = (mwS cB cI cJ cZ h a s')) :=
  CI_of (cc := cX11_year) (maxL := 5) (ret := (some .int)) (by decide) rfl (Nat.le_of_ble_eq_true rfl) (br_year _ _ _ hB)
theorem LX11_drawn_289 : Cond.fieldLink RX11 289 "GuessFerryModel" "lots" "I" ∈ wsX11_drawn := (List.mem_cons_of_mem _ (List.mem_append_left _ (List.mem_append_left _ (List.mem_of_getElem? (i := 0) rfl))))
theorem inX11_drawn_X11 : ∀ w ∈ u_ws RX11 TX11 58, w ∈ wsX11_drawn := fun w h => (List.mem_cons_of_mem _ (List.mem_append_right _ h))
set_option maxHeartbeats 4000000 in
set_option maxRecDepth 100000 in
theorem br_drawn_29 {l : Launch} {dC : Nat → ClassId} {dI : Nat → Nat → Nat} {cB cI cJ cZ cS : ClassId} {h : Nat} {a : Nat → Nat} {as : List Value} {r : Int32} {s' : RS} {k29 : RS → Int32 → Int32 → Int32 → Int32 → Option (Int32 × RS)} (hk29 : ∀ (s : RS) (x1 : Int32) (x2 : Int32) (x3 : Int32) (x4 : Int32), k29 s x1 x2 x3 x4 = some (r, s') → BlkI l yX11_drawn wsX11_drawn ({ frames := 3, cells := 0, slots := 0, locals := 68 }) cX11_drawn 5 (some .int) (dC, dI) (tysA cB cI cJ cZ cS) as 29 (mwS cB cI cJ cZ h a s) [(0, .ref h), (1, .int x1), (2, .int x2), (3, .int x3), (4, .int x4)] [] (fun x u => x = r ∧ u = (mwS cB cI cJ cZ h a s'))) (s : RS) (x1 : Int32) (x2 : Int32) (x3 : Int32) (x4 : Int32) (hB : r_drawn_29 k29 s x1 x2 x3 x4 = some (r, s')) : BlkI l yX11_drawn wsX11_drawn ({ frames := 3, cells := 0, slots := 0, locals := 68 }) cX11_drawn 5 (some .int) (dC, dI) (tysA cB cI cJ cZ cS) as 29 (mwS cB cI cJ cZ h a s) [(0, .ref h), (1, .int x1), (2, .int x2), (3, .int x3), (4, .int x4)] [] (fun x u => x = r ∧ u = (mwS cB cI cJ cZ h a s')) := by
  intro p e s0 m below meth c A E H locs ls hP hD hS hl
  obtain ⟨C, hr, hlocks, hA, hK, hN⟩ := id E
  obtain ⟨hx, hb, hml, hown, hts⟩ := id C
  unfold r_drawn_29 at hB
  refine lv_iload hx hb dX11_drawn_29 (lv_at hl 4 rfl) ?_
  refine lv_iload_n hx hb dX11_drawn_31 rfl (lv_at hl 2 rfl) ?_
  refine lv_icmp_ge (tgt := 61) hx hb dX11_drawn_32 (by decide) (fun c1 => ?_) (fun c1 => ?_)
  · have hB := if_p hB c1
    refine lv_iload_n hx hb dX11_drawn_61 rfl (lv_at hl 3 rfl) ?_
    obtain ⟨q_, hc, hB⟩ := bindP_inv hB
    refine q_goi0 (va_runS (As := [.int x3]) (rest := []) C (cr_bits hc _) (va_cwS 1 hts gX11_drawn_X11_bits rfl rfl rfl (by decide +kernel) ⟨Nat.le_of_ble_eq_true rfl, Nat.le_of_ble_eq_true rfl⟩) (q_pre0 hN hK) rfl rfl hl.1 rfl (lv_room (Nat.le_of_ble_eq_true rfl)) dX11_drawn_62 ⟨Nat.le_of_ble_eq_true rfl, Nat.le_of_ble_eq_true rfl⟩) hP hD hS hA (fun r2 w1 H locs hw hP hS => ?_)
    subst hw
    exact q_iret C hr hlocks hK hP hD hS (Nat.le_of_ble_eq_true rfl) (Nat.le_of_ble_eq_true rfl) dX11_drawn_65 (by cases hB; exact ⟨rfl, rfl⟩)
  · have hB := if_n hB c1
    refine lv_iload_n hx hb dX11_drawn_35 rfl (lv_at hl 3 rfl) ?_
    refine lv_iconst (v := 1) hx hb dX11_drawn_36 (by decide) ?_
    refine lv_aload_n hx hb dX11_drawn_37 rfl (lv_at hl 0 rfl) ?_
    refine lv_iload_n hx hb dX11_drawn_38 rfl (lv_at hl 1 rfl) ?_
    obtain ⟨q_, s3, hc, hB⟩ := bindI_inv hB
    refine q_goiF (va_runV (As := [.int x1]) (rest := [.int 1, .int x3]) C (cr_thereAt hc _) (cwV 1 hts gX11_drawn_X11_thereAt rfl rfl rfl (by decide +kernel) ⟨Nat.le_of_ble_eq_true rfl, Nat.le_of_ble_eq_true rfl⟩) (q_preV hK hP (ci := 11) (q0 := 0) rfl rfl rfl (q_preF hN hK hP hD)) rfl rfl hl.1 rfl (lv_room (Nat.le_of_ble_eq_true rfl)) dX11_drawn_39 ⟨Nat.le_of_ble_eq_true rfl, Nat.le_of_ble_eq_true rfl⟩) hD hS hA (fun r4 w1 H locs hw hP hD hS => ?_)
    obtain ⟨hq_, hw⟩ := hw; subst hw; subst hq_
    refine lv_ishl hx hb dX11_drawn_42 ?_
    refine lv_ior hx hb dX11_drawn_43 ?_
    refine lv_istore_n (lv' := [(3, .int (x3 ||| (1 <<< (r4 &&& 31)))), (0, .ref h), (1, .int x1), (2, .int x2), (4, .int x4)]) hx hb dX11_drawn_44 rfl hl (by decide) rfl (fun ls hl => ?_)
    refine lv_aload_n hx hb dX11_drawn_45 rfl (lv_at hl 1 rfl) ?_
    refine lv_dup hx hb dX11_drawn_46 rfl ?_
    refine q_get (v := .int (s3.v 45)) C inX11_drawn_X11 hK hP 0 rfl rfl 45 (by decide) rfl LX11_drawn_289 rfl dX11_drawn_47 ?_
    refine lv_iconst (v := 1) hx hb dX11_drawn_50 (by decide) ?_
    refine lv_iadd hx hb dX11_drawn_51 ?_
    obtain ⟨s5, hs6, hB⟩ := letS_inv hB
    refine q_put (ty := .int) (w2 := (mwS cB cI cJ cZ h a s5)) tyX11 tyX11_ok nmX11 C inX11_drawn_X11 hK hP hD hS 0 rfl rfl 45 (by decide) rfl LX11_drawn_289 rfl (by decide +kernel) (rfl) rfl (Nat.le_of_ble_eq_true rfl) dX11_drawn_52 (mwS_v45 hs6) (fun H locs hP hD hS => ?_)
    refine lv_iinc (v := (x4 + 1)) (lv' := [(4, .int (x4 + 1)), (3, .int (x3 ||| (1 <<< (r4 &&& 31)))), (0, .ref h), (1, .int x1), (2, .int x2)]) hx hb dX11_drawn_55 hl (k := 4) rfl (rfl) (by decide) rfl (fun ls hl => ?_)
    refine lv_goto (tgt := 29) hx hb dX11_drawn_58 (by decide) ?_
    exact hk29 _ _ _ _ _ hB p e s0 m below meth c A E H locs ls hP hD hS (lv_sub hl [2, 3, 4, 1, 0] rfl)
theorem br_drawn_29L {l : Launch} {dC : Nat → ClassId} {dI : Nat → Nat → Nat} {cB cI cJ cZ cS : ClassId} {h : Nat} {a : Nat → Nat} {as : List Value} {r : Int32} {s' : RS} : ∀ (n : Nat) (s : RS) (x1 : Int32) (x2 : Int32) (x3 : Int32) (x4 : Int32), r_drawn_29L n s x1 x2 x3 x4 = some (r, s') → BlkI l yX11_drawn wsX11_drawn ({ frames := 3, cells := 0, slots := 0, locals := 68 }) cX11_drawn 5 (some .int) (dC, dI) (tysA cB cI cJ cZ cS) as 29 (mwS cB cI cJ cZ h a s) [(0, .ref h), (1, .int x1), (2, .int x2), (3, .int x3), (4, .int x4)] [] (fun x u => x = r ∧ u = (mwS cB cI cJ cZ h a s')) := by
  intro n
  induction n with
  | zero => intro s x1 x2 x3 x4 hB; exact none_ne hB
  | succ n ih => intro s x1 x2 x3 x4 hB; exact br_drawn_29 ih _ _ _ _ _ hB
set_option maxHeartbeats 4000000 in
set_option maxRecDepth 100000 in
theorem br_drawn {l : Launch} {dC : Nat → ClassId} {dI : Nat → Nat → Nat} {cB cI cJ cZ cS : ClassId} {h : Nat} {a : Nat → Nat} {as : List Value} {r : Int32} {s' : RS} (s : RS) (x1 : Int32) (x2 : Int32) (hB : r_drawn s x1 x2 = some (r, s')) : BlkI l yX11_drawn wsX11_drawn ({ frames := 3, cells := 0, slots := 0, locals := 68 }) cX11_drawn 5 (some .int) (dC, dI) (tysA cB cI cJ cZ cS) as 0 (mwS cB cI cJ cZ h a s) [(0, .ref h), (1, .int x1), (2, .int x2)] [] (fun x u => x = r ∧ u = (mwS cB cI cJ cZ h a s')) := by
  intro p e s0 m below meth c A E H locs ls hP hD hS hl
  obtain ⟨C, hr, hlocks, hA, hK, hN⟩ := id E
  obtain ⟨hx, hb, hml, hown, hts⟩ := id C
  unfold r_drawn at hB
  refine lv_aload_n hx hb dX11_drawn_0 rfl (lv_at hl 0 rfl) ?_
  refine lv_iload_n hx hb dX11_drawn_1 rfl (lv_at hl 1 rfl) ?_
  obtain ⟨q_, s1, hc, hB⟩ := bindI_inv hB
  refine q_goiF (va_runV (As := [.int x1]) (rest := []) C (cr_isWave hc _) (cwV 1 hts gX11_drawn_X11_isWave rfl rfl rfl (by decide +kernel) ⟨Nat.le_of_ble_eq_true rfl, Nat.le_of_ble_eq_true rfl⟩) (q_preV hK hP (ci := 11) (q0 := 0) rfl rfl rfl (q_preF hN hK hP hD)) rfl rfl hl.1 rfl (lv_room (Nat.le_of_ble_eq_true rfl)) dX11_drawn_2 ⟨Nat.le_of_ble_eq_true rfl, Nat.le_of_ble_eq_true rfl⟩) hD hS hA (fun r2 w1 H locs hw hP hD hS => ?_)
  obtain ⟨hq_, hw⟩ := hw; subst hw; subst hq_
  refine lv_if_eq (tgt := 18) hx hb dX11_drawn_5 (by decide) (fun c3 => ?_) (fun c3 => ?_)
  · have hB := if_p hB c3
    refine lv_iconst (v := (-1)) hx hb dX11_drawn_18 (by decide) ?_
    exact q_iret C hr hlocks hK hP hD hS (Nat.le_of_ble_eq_true rfl) (Nat.le_of_ble_eq_true rfl) dX11_drawn_19 (by cases hB; exact ⟨rfl, rfl⟩)
  · have hB := if_n hB c3
    refine lv_iload_n hx hb dX11_drawn_8 rfl (lv_at hl 2 rfl) ?_
    refine lv_iconst (v := 1) hx hb dX11_drawn_9 (by decide) ?_
    refine lv_bipush (v := 20) hx hb dX11_drawn_10 (by decide) ?_
    obtain ⟨q_, hc, hB⟩ := bindP_inv hB
    refine q_goi0 (va_runS (As := [.int x2, .int 1, .int 20]) (rest := []) C (cr_in hc _) (va_cwS 3 hts gX11_drawn_X11_in rfl rfl rfl (by decide +kernel) ⟨Nat.le_of_ble_eq_true rfl, Nat.le_of_ble_eq_true rfl⟩) (q_pre0 hN hK) rfl rfl hl.1 rfl (lv_room (Nat.le_of_ble_eq_true rfl)) dX11_drawn_12 ⟨Nat.le_of_ble_eq_true rfl, Nat.le_of_ble_eq_true rfl⟩) hP hD hS hA (fun r4 w1 H locs hw hP hS => ?_)
    subst hw
    refine lv_if_ne (tgt := 20) hx hb dX11_drawn_15 (by decide) (fun c5 => ?_) (fun c5 => ?_)
    · have hB := if_n hB c5
      refine lv_aload_n hx hb dX11_drawn_20 rfl (lv_at hl 0 rfl) ?_
      obtain ⟨s6, hc, hB⟩ := bindP_inv hB
      refine q_govF (va_runV (As := []) (rest := []) C (cr_copies hc _) (cwV 0 hts gX11_drawn_X11_copies rfl rfl rfl (by decide +kernel) ⟨Nat.le_of_ble_eq_true rfl, Nat.le_of_ble_eq_true rfl⟩) (q_preV hK hP (ci := 11) (q0 := 0) rfl rfl rfl (q_preF hN hK hP hD)) rfl rfl hl.1 rfl (lv_room (Nat.le_of_ble_eq_true rfl)) dX11_drawn_21 ⟨Nat.le_of_ble_eq_true rfl, Nat.le_of_ble_eq_true rfl⟩) hD hS hA (fun w1 H locs hw hP hD hS => ?_)
      subst hw
      refine lv_iconst (v := 0) hx hb dX11_drawn_24 (by decide) ?_
      refine lv_istore_n (lv' := [(3, .int 0), (0, .ref h), (1, .int x1), (2, .int x2)]) hx hb dX11_drawn_25 rfl hl (by decide) rfl (fun ls hl => ?_)
      refine lv_iconst (v := 0) hx hb dX11_drawn_26 (by decide) ?_
      refine lv_istore (lv' := [(4, .int 0), (3, .int 0), (0, .ref h), (1, .int x1), (2, .int x2)]) hx hb dX11_drawn_27 hl (by decide) rfl (fun ls hl => ?_)
      exact br_drawn_29L fu _ _ _ _ _ hB p e s0 m below meth c A E H locs ls hP hD hS (lv_sub hl [2, 3, 4, 1, 0] rfl)
    · have hB := if_p hB c5
      refine lv_iconst (v := (-1)) hx hb dX11_drawn_18 (by decide) ?_
      exact q_iret C hr hlocks hK hP hD hS (Nat.le_of_ble_eq_true rfl) (Nat.le_of_ble_eq_true rfl) dX11_drawn_19 (by cases hB; exact ⟨rfl, rfl⟩)
theorem cr_drawn {l : Launch} {dC : Nat → ClassId} {dI : Nat → Nat → Nat} {cB cI cJ cZ cS : ClassId} {h : Nat} {a : Nat → Nat} {r : Int32} {s' : RS} {s : RS} {x1 : Int32} {x2 : Int32} (hB : r_drawn s x1 x2 = some (r, s')) : CI l yX11_drawn wsX11_drawn ({ frames := 3, cells := 0, slots := 0, locals := 68 }) (dC, dI) (tysA cB cI cJ cZ cS) (mwS cB cI cJ cZ h a s) [.ref h, .int x1, .int x2] (fun x u => x = r ∧ u = (mwS cB cI cJ cZ h a s')) :=
  CI_of (cc := cX11_drawn) (maxL := 5) (ret := (some .int)) (by decide) rfl (Nat.le_of_ble_eq_true rfl) (br_drawn _ _ _ hB)
theorem LX11_tell_116 : Cond.fieldLink RX11 116 "GuessFerryModel" "toldWave" "[I" ∈ wsX11_tell := (List.mem_cons_of_mem _ (List.mem_append_left _ (List.mem_append_left _ (List.mem_of_getElem? (i := 1) rfl))))
theorem LX11_tell_119 : Cond.fieldLink RX11 119 "GuessFerryModel" "toldThings" "[I" ∈ wsX11_tell := (List.mem_cons_of_mem _ (List.mem_append_left _ (List.mem_append_left _ (List.mem_of_getElem? (i := 2) rfl))))
theorem LX11_tell_122 : Cond.fieldLink RX11 122 "GuessFerryModel" "toldSo" "[Z" ∈ wsX11_tell := (List.mem_cons_of_mem _ (List.mem_append_left _ (List.mem_append_left _ (List.mem_of_getElem? (i := 3) rfl))))
theorem LX11_tell_233 : Cond.fieldLink RX11 233 "GuessFerryModel" "tolds" "I" ∈ wsX11_tell := (List.mem_cons_of_mem _ (List.mem_append_left _ (List.mem_append_left _ (List.mem_of_getElem? (i := 0) rfl))))
theorem inX11_tell_X11 : ∀ w ∈ u_ws RX11 TX11 58, w ∈ wsX11_tell := fun w h => (List.mem_cons_of_mem _ (List.mem_append_right _ h))
set_option maxHeartbeats 4000000 in
set_option maxRecDepth 100000 in
theorem br_tell {l : Launch} {dC : Nat → ClassId} {dI : Nat → Nat → Nat} {cB cI cJ cZ cS : ClassId} {h : Nat} {a : Nat → Nat} {as : List Value} {r : Int32} {s' : RS} (s : RS) (x1 : Int32) (x2 : Int32) (x3 : Int32) (hB : r_tell s x1 x2 x3 = some (r, s')) : BlkI l yX11_tell wsX11_tell ({ frames := 2, cells := 0, slots := 0, locals := 43 }) cX11_tell 4 (some .int) (dC, dI) (tysA cB cI cJ cZ cS) as 0 (mwS cB cI cJ cZ h a s) [(0, .ref h), (1, .int x1), (2, .int x2), (3, .int x3)] [] (fun x u => x = r ∧ u = (mwS cB cI cJ cZ h a s')) := by
  intro p e s0 m below meth c A E H locs ls hP hD hS hl
  obtain ⟨C, hr, hlocks, hA, hK, hN⟩ := id E
  obtain ⟨hx, hb, hml, hown, hts⟩ := id C
  unfold r_tell at hB
  refine lv_aload_n hx hb dX11_tell_0 rfl (lv_at hl 0 rfl) ?_
  refine q_get (v := .int (s.v 51)) C inX11_tell_X11 hK hP 0 rfl rfl 51 (by decide) rfl LX11_tell_233 rfl dX11_tell_1 ?_
  refine lv_bipush (v := 20) hx hb dX11_tell_4 (by decide) ?_
  refine lv_icmp_eq (tgt := 27) hx hb dX11_tell_6 (by decide) (fun c1 => ?_) (fun c1 => ?_)
  · have hB := if_p hB c1
    refine lv_iconst (v := (-1)) hx hb dX11_tell_27 (by decide) ?_
    exact q_iret C hr hlocks hK hP hD hS (Nat.le_of_ble_eq_true rfl) (Nat.le_of_ble_eq_true rfl) dX11_tell_28 (by cases hB; exact ⟨rfl, rfl⟩)
  · have hB := if_n hB c1
    refine lv_aload_n hx hb dX11_tell_9 rfl (lv_at hl 0 rfl) ?_
    refine lv_iload_n hx hb dX11_tell_10 rfl (lv_at hl 1 rfl) ?_
    obtain ⟨q_, s2, hc, hB⟩ := bindI_inv hB
    refine q_goiF (va_runV (As := [.int x1]) (rest := []) C (cr_isWave hc _) (cwV 1 hts gX11_tell_X11_isWave rfl rfl rfl (by decide +kernel) ⟨Nat.le_of_ble_eq_true rfl, Nat.le_of_ble_eq_true rfl⟩) (q_preV hK hP (ci := 11) (q0 := 0) rfl rfl rfl (q_preF hN hK hP hD)) rfl rfl hl.1 rfl (lv_room (Nat.le_of_ble_eq_true rfl)) dX11_tell_11 ⟨Nat.le_of_ble_eq_true rfl, Nat.le_of_ble_eq_true rfl⟩) hD hS hA (fun r3 w1 H locs hw hP hD hS => ?_)
    obtain ⟨hq_, hw⟩ := hw; subst hw; subst hq_
    refine lv_if_eq (tgt := 27) hx hb dX11_tell_14 (by decide) (fun c4 => ?_) (fun c4 => ?_)
    · have hB := if_p hB c4
      refine lv_iconst (v := (-1)) hx hb dX11_tell_27 (by decide) ?_
      exact q_iret C hr hlocks hK hP hD hS (Nat.le_of_ble_eq_true rfl) (Nat.le_of_ble_eq_true rfl) dX11_tell_28 (by cases hB; exact ⟨rfl, rfl⟩)
    · have hB := if_n hB c4
      refine lv_iload_n hx hb dX11_tell_17 rfl (lv_at hl 2 rfl) ?_
      refine lv_iconst (v := 1) hx hb dX11_tell_18 (by decide) ?_
      refine lv_bipush (v := 63) hx hb dX11_tell_19 (by decide) ?_
      obtain ⟨q_, hc, hB⟩ := bindP_inv hB
      refine q_goi0 (va_runS (As := [.int x2, .int 1, .int 63]) (rest := []) C (cr_in hc _) (va_cwS 3 hts gX11_tell_X11_in rfl rfl rfl (by decide +kernel) ⟨Nat.le_of_ble_eq_true rfl, Nat.le_of_ble_eq_true rfl⟩) (q_pre0 hN hK) rfl rfl hl.1 rfl (lv_room (Nat.le_of_ble_eq_true rfl)) dX11_tell_21 ⟨Nat.le_of_ble_eq_true rfl, Nat.le_of_ble_eq_true rfl⟩) hP hD hS hA (fun r5 w1 H locs hw hP hS => ?_)
      subst hw
      refine lv_if_ne (tgt := 29) hx hb dX11_tell_24 (by decide) (fun c6 => ?_) (fun c6 => ?_)
      · have hB := if_n hB c6
        refine lv_aload_n hx hb dX11_tell_29 rfl (lv_at hl 0 rfl) ?_
        refine q_get (v := .ref (a 52)) C inX11_tell_X11 hK hP 0 rfl rfl 52 (by decide) rfl LX11_tell_116 rfl dX11_tell_30 ?_
        refine lv_aload_n hx hb dX11_tell_33 rfl (lv_at hl 0 rfl) ?_
        refine q_get (v := .int (s2.v 51)) C inX11_tell_X11 hK hP 0 rfl rfl 51 (by decide) rfl LX11_tell_233 rfl dX11_tell_34 ?_
        refine lv_iload_n hx hb dX11_tell_37 rfl (lv_at hl 1 rfl) ?_
        obtain ⟨g7, hB⟩ := guard_inv hB
        obtain ⟨s8, hs9, hB⟩ := letS_inv hB
        refine q_iast (f2 := (upd (s2.f 52) (Int32.toNatClampNeg (s2.v 51)) x1)) (w2 := (mwS cB cI cJ cZ h a s8)) C hK hP hD hS 33 1 rfl rfl (vpb_in g7) dX11_tell_38 rfl (mwS_f52 hs9) (fun H locs hP hD hS => ?_)
        refine lv_aload_n hx hb dX11_tell_39 rfl (lv_at hl 0 rfl) ?_
        refine q_get (v := .ref (a 53)) C inX11_tell_X11 hK hP 0 rfl rfl 53 (by decide) rfl LX11_tell_119 rfl dX11_tell_40 ?_
        refine lv_aload_n hx hb dX11_tell_43 rfl (lv_at hl 0 rfl) ?_
        refine q_get (v := .int (s8.v 51)) C inX11_tell_X11 hK hP 0 rfl rfl 51 (by decide) rfl LX11_tell_233 rfl dX11_tell_44 ?_
        refine lv_iload_n hx hb dX11_tell_47 rfl (lv_at hl 2 rfl) ?_
        obtain ⟨g10, hB⟩ := guard_inv hB
        obtain ⟨s11, hs12, hB⟩ := letS_inv hB
        refine q_iast (f2 := (upd (s8.f 53) (Int32.toNatClampNeg (s8.v 51)) x2)) (w2 := (mwS cB cI cJ cZ h a s11)) C hK hP hD hS 34 1 rfl rfl (vpb_in g10) dX11_tell_48 rfl (mwS_f53 hs12) (fun H locs hP hD hS => ?_)
        refine lv_aload_n hx hb dX11_tell_49 rfl (lv_at hl 0 rfl) ?_
        refine q_get (v := .ref (a 54)) C inX11_tell_X11 hK hP 0 rfl rfl 54 (by decide) rfl LX11_tell_122 rfl dX11_tell_50 ?_
        refine lv_aload_n hx hb dX11_tell_53 rfl (lv_at hl 0 rfl) ?_
        refine q_get (v := .int (s11.v 51)) C inX11_tell_X11 hK hP 0 rfl rfl 51 (by decide) rfl LX11_tell_233 rfl dX11_tell_54 ?_
        refine lv_iload_n hx hb dX11_tell_57 rfl (lv_at hl 3 rfl) ?_
        obtain ⟨g13, hB⟩ := guard_inv hB
        obtain ⟨s14, hs15, hB⟩ := letS_inv hB
        refine q_zast (f2 := (upd (s11.f 54) (Int32.toNatClampNeg (s11.v 51)) (vp_nar .boolean x3))) (w2 := (mwS cB cI cJ cZ h a s14)) C hK hP hD hS 35 3 rfl rfl (vpb_in g13) dX11_tell_58 rfl (mwS_f54 hs15) (fun H locs hP hD hS => ?_)
        refine lv_aload_n hx hb dX11_tell_59 rfl (lv_at hl 0 rfl) ?_
        refine lv_dup hx hb dX11_tell_60 rfl ?_
        refine q_get (v := .int (s14.v 51)) C inX11_tell_X11 hK hP 0 rfl rfl 51 (by decide) rfl LX11_tell_233 rfl dX11_tell_61 ?_
        refine lv_iconst (v := 1) hx hb dX11_tell_64 (by decide) ?_
        refine lv_iadd hx hb dX11_tell_65 ?_
        obtain ⟨s16, hs17, hB⟩ := letS_inv hB
        refine q_put (ty := .int) (w2 := (mwS cB cI cJ cZ h a s16)) tyX11 tyX11_ok nmX11 C inX11_tell_X11 hK hP hD hS 0 rfl rfl 51 (by decide) rfl LX11_tell_233 rfl (by decide +kernel) (rfl) rfl (Nat.le_of_ble_eq_true rfl) dX11_tell_66 (mwS_v51 hs17) (fun H locs hP hD hS => ?_)
        refine lv_aload_n hx hb dX11_tell_69 rfl (lv_at hl 0 rfl) ?_
        refine q_get (v := .int (s16.v 51)) C inX11_tell_X11 hK hP 0 rfl rfl 51 (by decide) rfl LX11_tell_233 rfl dX11_tell_70 ?_
        refine lv_iconst (v := 1) hx hb dX11_tell_73 (by decide) ?_
        refine lv_isub hx hb dX11_tell_74 ?_
        exact q_iret C hr hlocks hK hP hD hS (Nat.le_of_ble_eq_true rfl) (Nat.le_of_ble_eq_true rfl) dX11_tell_75 (by cases hB; exact ⟨rfl, rfl⟩)
      · have hB := if_p hB c6
        refine lv_iconst (v := (-1)) hx hb dX11_tell_27 (by decide) ?_
        exact q_iret C hr hlocks hK hP hD hS (Nat.le_of_ble_eq_true rfl) (Nat.le_of_ble_eq_true rfl) dX11_tell_28 (by cases hB; exact ⟨rfl, rfl⟩)
theorem cr_tell {l : Launch} {dC : Nat → ClassId} {dI : Nat → Nat → Nat} {cB cI cJ cZ cS : ClassId} {h : Nat} {a : Nat → Nat} {r : Int32} {s' : RS} {s : RS} {x1 : Int32} {x2 : Int32} {x3 : Int32} (hB : r_tell s x1 x2 x3 = some (r, s')) : CI l yX11_tell wsX11_tell ({ frames := 2, cells := 0, slots := 0, locals := 43 }) (dC, dI) (tysA cB cI cJ cZ cS) (mwS cB cI cJ cZ h a s) [.ref h, .int x1, .int x2, .int x3] (fun x u => x = r ∧ u = (mwS cB cI cJ cZ h a s')) :=
  CI_of (cc := cX11_tell) (maxL := 4) (ret := (some .int)) (by decide) rfl (Nat.le_of_ble_eq_true rfl) (br_tell _ _ _ _ hB)
theorem LX11_forget_233 : Cond.fieldLink RX11 233 "GuessFerryModel" "tolds" "I" ∈ wsX11_forget := (List.mem_cons_of_mem _ (List.mem_append_left _ (List.mem_of_getElem? (i := 0) rfl)))
theorem inX11_forget_X11 : ∀ w ∈ u_ws RX11 TX11 58, w ∈ wsX11_forget := fun _ h => List.mem_cons_of_mem _ (List.mem_append_right _ h)
set_option maxHeartbeats 4000000 in
set_option maxRecDepth 100000 in
theorem br_forget {l : Launch} {dC : Nat → ClassId} {dI : Nat → Nat → Nat} {cB cI cJ cZ cS : ClassId} {h : Nat} {a : Nat → Nat} {as : List Value} {r : Int32} {s' : RS} (s : RS) (hB : r_forget s = some (r, s')) : BlkI l yX11_forget wsX11_forget ({ frames := 0, cells := 0, slots := 0, locals := 0 }) cX11_forget 2 (some .int) (dC, dI) (tysA cB cI cJ cZ cS) as 0 (mwS cB cI cJ cZ h a s) [(0, .ref h)] [] (fun x u => x = r ∧ u = (mwS cB cI cJ cZ h a s')) := by
  intro p e s0 m below meth c A E H locs ls hP hD hS hl
  obtain ⟨C, hr, hlocks, hA, hK, hN⟩ := id E
  obtain ⟨hx, hb, hml, hown, hts⟩ := id C
  unfold r_forget at hB
  refine lv_aload_n hx hb dX11_forget_0 rfl (lv_at hl 0 rfl) ?_
  refine q_get (v := .int (s.v 51)) C inX11_forget_X11 hK hP 0 rfl rfl 51 (by decide) rfl LX11_forget_233 rfl dX11_forget_1 ?_
  refine lv_istore_n (lv' := [(1, .int (s.v 51)), (0, .ref h)]) hx hb dX11_forget_4 rfl hl (by decide) rfl (fun ls hl => ?_)
  refine lv_aload_n hx hb dX11_forget_5 rfl (lv_at hl 1 rfl) ?_
  refine lv_iconst (v := 0) hx hb dX11_forget_6 (by decide) ?_
  obtain ⟨s1, hs2, hB⟩ := letS_inv hB
  refine q_put (ty := .int) (w2 := (mwS cB cI cJ cZ h a s1)) tyX11 tyX11_ok nmX11 C inX11_forget_X11 hK hP hD hS 0 rfl rfl 51 (by decide) rfl LX11_forget_233 rfl (by decide +kernel) (rfl) rfl (Nat.le_of_ble_eq_true rfl) dX11_forget_7 (mwS_v51 hs2) (fun H locs hP hD hS => ?_)
  refine lv_iload_n hx hb dX11_forget_10 rfl (lv_at hl 0 rfl) ?_
  exact q_iret C hr hlocks hK hP hD hS (Nat.le_of_ble_eq_true rfl) (Nat.le_of_ble_eq_true rfl) dX11_forget_11 (by cases hB; exact ⟨rfl, rfl⟩)
theorem cr_forget {l : Launch} {dC : Nat → ClassId} {dI : Nat → Nat → Nat} {cB cI cJ cZ cS : ClassId} {h : Nat} {a : Nat → Nat} {r : Int32} {s' : RS} {s : RS} (hB : r_forget s = some (r, s')) : CI l yX11_forget wsX11_forget ({ frames := 0, cells := 0, slots := 0, locals := 0 }) (dC, dI) (tysA cB cI cJ cZ cS) (mwS cB cI cJ cZ h a s) [.ref h] (fun x u => x = r ∧ u = (mwS cB cI cJ cZ h a s')) :=
  CI_of (cc := cX11_forget) (maxL := 2) (ret := (some .int)) (by decide) rfl (Nat.le_of_ble_eq_true rfl) (br_forget _ hB)
theorem LX11_isSo_116 : Cond.fieldLink RX11 116 "GuessFerryModel" "toldWave" "[I" ∈ wsX11_isSo := (List.mem_cons_of_mem _ (List.mem_append_left _ (List.mem_append_left _ (List.mem_of_getElem? (i := 1) rfl))))
theorem LX11_isSo_119 : Cond.fieldLink RX11 119 "GuessFerryModel" "toldThings" "[I" ∈ wsX11_isSo := (List.mem_cons_of_mem _ (List.mem_append_left _ (List.mem_append_left _ (List.mem_of_getElem? (i := 0) rfl))))
theorem LX11_isSo_122 : Cond.fieldLink RX11 122 "GuessFerryModel" "toldSo" "[Z" ∈ wsX11_isSo := (List.mem_cons_of_mem _ (List.mem_append_left _ (List.mem_append_left _ (List.mem_of_getElem? (i := 2) rfl))))
theorem inX11_isSo_X11 : ∀ w ∈ u_ws RX11 TX11 58, w ∈ wsX11_isSo := fun w h => (List.mem_cons_of_mem _ (List.mem_append_right _ h))
set_option maxHeartbeats 4000000 in
set_option maxRecDepth 100000 in
theorem br_isSo_29 {l : Launch} {dC : Nat → ClassId} {dI : Nat → Nat → Nat} {cB cI cJ cZ cS : ClassId} {h : Nat} {a : Nat → Nat} {as : List Value} {r : Int32} {s' : RS} (s : RS) (x2 : Int32) (t0 : Int32) (hB : r_isSo_29 s x2 t0 = some (r, s')) : BlkI l yX11_isSo wsX11_isSo ({ frames := 1, cells := 0, slots := 0, locals := 22 }) cX11_isSo 3 (some .boolean) (dC, dI) (tysA cB cI cJ cZ cS) as 29 (mwS cB cI cJ cZ h a s) [(0, .ref h), (2, .int x2)] [.int t0] (fun x u => x = r ∧ u = (mwS cB cI cJ cZ h a s')) := by
  intro p e s0 m below meth c A E H locs ls hP hD hS hl
  obtain ⟨C, hr, hlocks, hA, hK, hN⟩ := id E
  obtain ⟨hx, hb, hml, hown, hts⟩ := id C
  unfold r_isSo_29 at hB
  refine lv_aload_n hx hb dX11_isSo_29 rfl (lv_at hl 0 rfl) ?_
  refine q_get (v := .ref (a 54)) C inX11_isSo_X11 hK hP 0 rfl rfl 54 (by decide) rfl LX11_isSo_122 rfl dX11_isSo_30 ?_
  refine lv_iload_n hx hb dX11_isSo_33 rfl (lv_at hl 1 rfl) ?_
  obtain ⟨g1, hB⟩ := guard_inv hB
  refine q_zald (x := (s.f 54 (Int32.toNatClampNeg x2))) C hK hP 35 3 rfl rfl (vpb_in g1) dX11_isSo_34 rfl ?_
  refine lv_icmp_ne (tgt := 42) hx hb dX11_isSo_35 (by decide) (fun c2 => ?_) (fun c2 => ?_)
  · have hB := if_n hB c2
    refine lv_iconst (v := 0) hx hb dX11_isSo_42 (by decide) ?_
    exact q_zret C hr hlocks (Or.inl rfl) hK hP hD hS (Nat.le_of_ble_eq_true rfl) (Nat.le_of_ble_eq_true rfl) dX11_isSo_43 (by cases hB; exact ⟨rfl, rfl⟩)
  · have hB := if_p hB c2
    refine lv_iconst (v := 1) hx hb dX11_isSo_38 (by decide) ?_
    refine lv_goto (tgt := 43) hx hb dX11_isSo_39 (by decide) ?_
    exact q_zret C hr hlocks (Or.inr rfl) hK hP hD hS (Nat.le_of_ble_eq_true rfl) (Nat.le_of_ble_eq_true rfl) dX11_isSo_43 (by cases hB; exact ⟨rfl, rfl⟩)
set_option maxHeartbeats 4000000 in
set_option maxRecDepth 100000 in
theorem br_isSo {l : Launch} {dC : Nat → ClassId} {dI : Nat → Nat → Nat} {cB cI cJ cZ cS : ClassId} {h : Nat} {a : Nat → Nat} {as : List Value} {r : Int32} {s' : RS} (s : RS) (x1 : Int32) (x2 : Int32) (hB : r_isSo s x1 x2 = some (r, s')) : BlkI l yX11_isSo wsX11_isSo ({ frames := 1, cells := 0, slots := 0, locals := 22 }) cX11_isSo 3 (some .boolean) (dC, dI) (tysA cB cI cJ cZ cS) as 0 (mwS cB cI cJ cZ h a s) [(0, .ref h), (1, .int x1), (2, .int x2)] [] (fun x u => x = r ∧ u = (mwS cB cI cJ cZ h a s')) := by
  intro p e s0 m below meth c A E H locs ls hP hD hS hl
  obtain ⟨C, hr, hlocks, hA, hK, hN⟩ := id E
  obtain ⟨hx, hb, hml, hown, hts⟩ := id C
  unfold r_isSo at hB
  refine lv_aload_n hx hb dX11_isSo_0 rfl (lv_at hl 0 rfl) ?_
  refine q_get (v := .ref (a 53)) C inX11_isSo_X11 hK hP 0 rfl rfl 53 (by decide) rfl LX11_isSo_119 rfl dX11_isSo_1 ?_
  refine lv_iload_n hx hb dX11_isSo_4 rfl (lv_at hl 2 rfl) ?_
  obtain ⟨g1, hB⟩ := guard_inv hB
  refine q_iald (x := (s.f 53 (Int32.toNatClampNeg x2))) C hK hP 34 1 rfl rfl (vpb_in g1) dX11_isSo_5 rfl ?_
  refine lv_aload_n hx hb dX11_isSo_6 rfl (lv_at hl 0 rfl) ?_
  refine lv_iload_n hx hb dX11_isSo_7 rfl (lv_at hl 1 rfl) ?_
  refine lv_aload_n hx hb dX11_isSo_8 rfl (lv_at hl 0 rfl) ?_
  refine q_get (v := .ref (a 52)) C inX11_isSo_X11 hK hP 0 rfl rfl 52 (by decide) rfl LX11_isSo_116 rfl dX11_isSo_9 ?_
  refine lv_iload_n hx hb dX11_isSo_12 rfl (lv_at hl 2 rfl) ?_
  obtain ⟨g2, hB⟩ := guard_inv hB
  refine q_iald (x := (s.f 52 (Int32.toNatClampNeg x2))) C hK hP 33 1 rfl rfl (vpb_in g2) dX11_isSo_13 rfl ?_
  obtain ⟨q_, s3, hc, hB⟩ := bindI_inv hB
  refine q_goiF (va_runV (As := [.int x1, .int (s.f 52 (Int32.toNatClampNeg x2))]) (rest := [.int (s.f 53 (Int32.toNatClampNeg x2))]) C (cr_thingAt hc _) (cwV 2 hts gX11_isSo_X11_thingAt rfl rfl rfl (by decide +kernel) ⟨Nat.le_of_ble_eq_true rfl, Nat.le_of_ble_eq_true rfl⟩) (q_preV hK hP (ci := 11) (q0 := 0) rfl rfl rfl (q_preF hN hK hP hD)) rfl rfl hl.1 rfl (lv_room (Nat.le_of_ble_eq_true rfl)) dX11_isSo_14 ⟨Nat.le_of_ble_eq_true rfl, Nat.le_of_ble_eq_true rfl⟩) hD hS hA (fun r4 w1 H locs hw hP hD hS => ?_)
  obtain ⟨hq_, hw⟩ := hw; subst hw; subst hq_
  refine lv_ishr hx hb dX11_isSo_17 ?_
  refine lv_iconst (v := 1) hx hb dX11_isSo_18 (by decide) ?_
  refine lv_iand hx hb dX11_isSo_19 ?_
  refine lv_iconst (v := 1) hx hb dX11_isSo_20 (by decide) ?_
  refine lv_icmp_ne (tgt := 28) hx hb dX11_isSo_21 (by decide) (fun c5 => ?_) (fun c5 => ?_)
  · have hB := if_n hB c5
    refine lv_iconst (v := 0) hx hb dX11_isSo_28 (by decide) ?_
    exact br_isSo_29 _ _ _ hB p e s0 m below meth c A E H locs ls hP hD hS (lv_sub hl [0, 2] rfl)
  · have hB := if_p hB c5
    refine lv_iconst (v := 1) hx hb dX11_isSo_24 (by decide) ?_
    refine lv_goto (tgt := 29) hx hb dX11_isSo_25 (by decide) ?_
    exact br_isSo_29 _ _ _ hB p e s0 m below meth c A E H locs ls hP hD hS (lv_sub hl [0, 2] rfl)
theorem cr_isSo {l : Launch} {dC : Nat → ClassId} {dI : Nat → Nat → Nat} {cB cI cJ cZ cS : ClassId} {h : Nat} {a : Nat → Nat} {r : Int32} {s' : RS} {s : RS} {x1 : Int32} {x2 : Int32} (hB : r_isSo s x1 x2 = some (r, s')) : CI l yX11_isSo wsX11_isSo ({ frames := 1, cells := 0, slots := 0, locals := 22 }) (dC, dI) (tysA cB cI cJ cZ cS) (mwS cB cI cJ cZ h a s) [.ref h, .int x1, .int x2] (fun x u => x = r ∧ u = (mwS cB cI cJ cZ h a s')) :=
  CI_of (cc := cX11_isSo) (maxL := 3) (ret := (some .boolean)) (by decide) rfl (Nat.le_of_ble_eq_true rfl) (br_isSo _ _ _ hB)
theorem LX11_doesFit_113 : Cond.fieldLink RX11 113 "GuessFerryModel" "chanceBy" "[I" ∈ wsX11_doesFit := (List.mem_cons_of_mem _ (List.mem_append_left _ (List.mem_append_left _ (List.mem_of_getElem? (i := 0) rfl))))
theorem inX11_doesFit_X11 : ∀ w ∈ u_ws RX11 TX11 58, w ∈ wsX11_doesFit := fun w h => (List.mem_cons_of_mem _ (List.mem_append_right _ h))
set_option maxHeartbeats 4000000 in
set_option maxRecDepth 100000 in
theorem br_doesFit_36 {l : Launch} {dC : Nat → ClassId} {dI : Nat → Nat → Nat} {cB cI cJ cZ cS : ClassId} {h : Nat} {a : Nat → Nat} {as : List Value} {r : Int32} {s' : RS} {k17 : RS → Int32 → Int32 → Int32 → Int32 → Int32 → Option (Int32 × RS)} (hk17 : ∀ (s : RS) (x1 : Int32) (x2 : Int32) (x3 : Int32) (x4 : Int32) (x5 : Int32), k17 s x1 x2 x3 x4 x5 = some (r, s') → BlkI l yX11_doesFit wsX11_doesFit ({ frames := 2, cells := 0, slots := 0, locals := 44 }) cX11_doesFit 6 (some .boolean) (dC, dI) (tysA cB cI cJ cZ cS) as 17 (mwS cB cI cJ cZ h a s) [(0, .ref h), (1, .int x1), (2, .int x2), (3, .int x3), (4, .int x4), (5, .int x5)] [] (fun x u => x = r ∧ u = (mwS cB cI cJ cZ h a s'))) (s : RS) (x1 : Int32) (x2 : Int32) (x3 : Int32) (x4 : Int32) (x5 : Int32) (hB : r_doesFit_36 k17 s x1 x2 x3 x4 x5 = some (r, s')) : BlkI l yX11_doesFit wsX11_doesFit ({ frames := 2, cells := 0, slots := 0, locals := 44 }) cX11_doesFit 6 (some .boolean) (dC, dI) (tysA cB cI cJ cZ cS) as 36 (mwS cB cI cJ cZ h a s) [(0, .ref h), (1, .int x1), (2, .int x2), (3, .int x3), (4, .int x4), (5, .int x5)] [] (fun x u => x = r ∧ u = (mwS cB cI cJ cZ h a s')) := by
  intro p e s0 m below meth c A E H locs ls hP hD hS hl
  obtain ⟨C, hr, hlocks, hA, hK, hN⟩ := id E
  obtain ⟨hx, hb, hml, hown, hts⟩ := id C
  unfold r_doesFit_36 at hB
  refine lv_iinc (v := (x5 + 1)) (lv' := [(5, .int (x5 + 1)), (0, .ref h), (1, .int x1), (2, .int x2), (3, .int x3), (4, .int x4)]) hx hb dX11_doesFit_36 hl (k := 5) rfl (rfl) (by decide) rfl (fun ls hl => ?_)
  refine lv_goto (tgt := 17) hx hb dX11_doesFit_39 (by decide) ?_
  exact hk17 _ _ _ _ _ _ hB p e s0 m below meth c A E H locs ls hP hD hS (lv_sub hl [1, 2, 3, 4, 5, 0] rfl)
set_option maxHeartbeats 4000000 in
set_option maxRecDepth 100000 in
theorem br_doesFit_17 {l : Launch} {dC : Nat → ClassId} {dI : Nat → Nat → Nat} {cB cI cJ cZ cS : ClassId} {h : Nat} {a : Nat → Nat} {as : List Value} {r : Int32} {s' : RS} {k17 : RS → Int32 → Int32 → Int32 → Int32 → Int32 → Option (Int32 × RS)} (hk17 : ∀ (s : RS) (x1 : Int32) (x2 : Int32) (x3 : Int32) (x4 : Int32) (x5 : Int32), k17 s x1 x2 x3 x4 x5 = some (r, s') → BlkI l yX11_doesFit wsX11_doesFit ({ frames := 2, cells := 0, slots := 0, locals := 44 }) cX11_doesFit 6 (some .boolean) (dC, dI) (tysA cB cI cJ cZ cS) as 17 (mwS cB cI cJ cZ h a s) [(0, .ref h), (1, .int x1), (2, .int x2), (3, .int x3), (4, .int x4), (5, .int x5)] [] (fun x u => x = r ∧ u = (mwS cB cI cJ cZ h a s'))) (s : RS) (x1 : Int32) (x2 : Int32) (x3 : Int32) (x4 : Int32) (x5 : Int32) (hB : r_doesFit_17 k17 s x1 x2 x3 x4 x5 = some (r, s')) : BlkI l yX11_doesFit wsX11_doesFit ({ frames := 2, cells := 0, slots := 0, locals := 44 }) cX11_doesFit 6 (some .boolean) (dC, dI) (tysA cB cI cJ cZ cS) as 17 (mwS cB cI cJ cZ h a s) [(0, .ref h), (1, .int x1), (2, .int x2), (3, .int x3), (4, .int x4), (5, .int x5)] [] (fun x u => x = r ∧ u = (mwS cB cI cJ cZ h a s')) := by
  intro p e s0 m below meth c A E H locs ls hP hD hS hl
  obtain ⟨C, hr, hlocks, hA, hK, hN⟩ := id E
  obtain ⟨hx, hb, hml, hown, hts⟩ := id C
  unfold r_doesFit_17 at hB
  refine lv_iload hx hb dX11_doesFit_17 (lv_at hl 5 rfl) ?_
  refine lv_iload_n hx hb dX11_doesFit_19 rfl (lv_at hl 2 rfl) ?_
  refine lv_icmp_ge (tgt := 42) hx hb dX11_doesFit_20 (by decide) (fun c1 => ?_) (fun c1 => ?_)
  · have hB := if_p hB c1
    refine lv_iload hx hb dX11_doesFit_42 (lv_at hl 4 rfl) ?_
    refine lv_iload_n hx hb dX11_doesFit_44 rfl (lv_at hl 3 rfl) ?_
    refine lv_icmp_gt (tgt := 52) hx hb dX11_doesFit_45 (by decide) (fun c2 => ?_) (fun c2 => ?_)
    · have hB := if_p hB c2
      refine lv_iconst (v := 0) hx hb dX11_doesFit_52 (by decide) ?_
      exact q_zret C hr hlocks (Or.inl rfl) hK hP hD hS (Nat.le_of_ble_eq_true rfl) (Nat.le_of_ble_eq_true rfl) dX11_doesFit_53 (by cases hB; exact ⟨rfl, rfl⟩)
    · have hB := if_n hB c2
      refine lv_iconst (v := 1) hx hb dX11_doesFit_48 (by decide) ?_
      refine lv_goto (tgt := 53) hx hb dX11_doesFit_49 (by decide) ?_
      exact q_zret C hr hlocks (Or.inr rfl) hK hP hD hS (Nat.le_of_ble_eq_true rfl) (Nat.le_of_ble_eq_true rfl) dX11_doesFit_53 (by cases hB; exact ⟨rfl, rfl⟩)
  · have hB := if_n hB c1
    refine lv_aload_n hx hb dX11_doesFit_23 rfl (lv_at hl 0 rfl) ?_
    refine lv_iload_n hx hb dX11_doesFit_24 rfl (lv_at hl 1 rfl) ?_
    refine lv_iload hx hb dX11_doesFit_25 (lv_at hl 5 rfl) ?_
    obtain ⟨q_, s3, hc, hB⟩ := bindI_inv hB
    refine q_goiF (va_runV (As := [.int x1, .int x5]) (rest := []) C (cr_isSo hc _) (cwV 2 hts gX11_doesFit_X11_isSo rfl rfl rfl (by decide +kernel) ⟨Nat.le_of_ble_eq_true rfl, Nat.le_of_ble_eq_true rfl⟩) (q_preV hK hP (ci := 11) (q0 := 0) rfl rfl rfl (q_preF hN hK hP hD)) rfl rfl hl.1 rfl (lv_room (Nat.le_of_ble_eq_true rfl)) dX11_doesFit_27 ⟨Nat.le_of_ble_eq_true rfl, Nat.le_of_ble_eq_true rfl⟩) hD hS hA (fun r4 w1 H locs hw hP hD hS => ?_)
    obtain ⟨hq_, hw⟩ := hw; subst hw; subst hq_
    refine lv_if_ne (tgt := 36) hx hb dX11_doesFit_30 (by decide) (fun c5 => ?_) (fun c5 => ?_)
    · have hB := if_n hB c5
      exact br_doesFit_36 (hk17) _ _ _ _ _ _ hB p e s0 m below meth c A E H locs ls hP hD hS (lv_sub hl [0, 1, 2, 3, 4, 5] rfl)
    · have hB := if_p hB c5
      refine lv_iinc (v := (x4 + 1)) (lv' := [(4, .int (x4 + 1)), (0, .ref h), (1, .int x1), (2, .int x2), (3, .int x3), (5, .int x5)]) hx hb dX11_doesFit_33 hl (k := 4) rfl (rfl) (by decide) rfl (fun ls hl => ?_)
      exact br_doesFit_36 (hk17) _ _ _ _ _ _ hB p e s0 m below meth c A E H locs ls hP hD hS (lv_sub hl [1, 2, 3, 4, 0, 5] rfl)
theorem br_doesFit_17L {l : Launch} {dC : Nat → ClassId} {dI : Nat → Nat → Nat} {cB cI cJ cZ cS : ClassId} {h : Nat} {a : Nat → Nat} {as : List Value} {r : Int32} {s' : RS} : ∀ (n : Nat) (s : RS) (x1 : Int32) (x2 : Int32) (x3 : Int32) (x4 : Int32) (x5 : Int32), r_doesFit_17L n s x1 x2 x3 x4 x5 = some (r, s') → BlkI l yX11_doesFit wsX11_doesFit ({ frames := 2, cells := 0, slots := 0, locals := 44 }) cX11_doesFit 6 (some .boolean) (dC, dI) (tysA cB cI cJ cZ cS) as 17 (mwS cB cI cJ cZ h a s) [(0, .ref h), (1, .int x1), (2, .int x2), (3, .int x3), (4, .int x4), (5, .int x5)] [] (fun x u => x = r ∧ u = (mwS cB cI cJ cZ h a s')) := by
  intro n
  induction n with
  | zero => intro s x1 x2 x3 x4 x5 hB; exact none_ne hB
  | succ n ih => intro s x1 x2 x3 x4 x5 hB; exact br_doesFit_17 ih _ _ _ _ _ _ hB
set_option maxHeartbeats 4000000 in
set_option maxRecDepth 100000 in
theorem br_doesFit {l : Launch} {dC : Nat → ClassId} {dI : Nat → Nat → Nat} {cB cI cJ cZ cS : ClassId} {h : Nat} {a : Nat → Nat} {as : List Value} {r : Int32} {s' : RS} (s : RS) (x1 : Int32) (x2 : Int32) (x3 : Int32) (hB : r_doesFit s x1 x2 x3 = some (r, s')) : BlkI l yX11_doesFit wsX11_doesFit ({ frames := 2, cells := 0, slots := 0, locals := 44 }) cX11_doesFit 6 (some .boolean) (dC, dI) (tysA cB cI cJ cZ cS) as 0 (mwS cB cI cJ cZ h a s) [(0, .ref h), (1, .int x1), (2, .int x2), (3, .int x3)] [] (fun x u => x = r ∧ u = (mwS cB cI cJ cZ h a s')) := by
  intro p e s0 m below meth c A E H locs ls hP hD hS hl
  obtain ⟨C, hr, hlocks, hA, hK, hN⟩ := id E
  obtain ⟨hx, hb, hml, hown, hts⟩ := id C
  unfold r_doesFit at hB
  refine lv_aload_n hx hb dX11_doesFit_0 rfl (lv_at hl 0 rfl) ?_
  refine q_get (v := .ref (a 50)) C inX11_doesFit_X11 hK hP 0 rfl rfl 50 (by decide) rfl LX11_doesFit_113 rfl dX11_doesFit_1 ?_
  refine lv_iload_n hx hb dX11_doesFit_4 rfl (lv_at hl 1 rfl) ?_
  obtain ⟨g1, hB⟩ := guard_inv hB
  refine q_iald (x := (s.f 50 (Int32.toNatClampNeg x1))) C hK hP 32 1 rfl rfl (vpb_in g1) dX11_doesFit_5 rfl ?_
  refine lv_if_ne (tgt := 11) hx hb dX11_doesFit_6 (by decide) (fun c2 => ?_) (fun c2 => ?_)
  · have hB := if_n hB c2
    refine lv_iconst (v := 0) hx hb dX11_doesFit_11 (by decide) ?_
    refine lv_istore (lv' := [(4, .int 0), (0, .ref h), (1, .int x1), (2, .int x2), (3, .int x3)]) hx hb dX11_doesFit_12 hl (by decide) rfl (fun ls hl => ?_)
    refine lv_iconst (v := 0) hx hb dX11_doesFit_14 (by decide) ?_
    refine lv_istore (lv' := [(5, .int 0), (4, .int 0), (0, .ref h), (1, .int x1), (2, .int x2), (3, .int x3)]) hx hb dX11_doesFit_15 hl (by decide) rfl (fun ls hl => ?_)
    exact br_doesFit_17L fu _ _ _ _ _ _ hB p e s0 m below meth c A E H locs ls hP hD hS (lv_sub hl [2, 3, 4, 5, 1, 0] rfl)
  · have hB := if_p hB c2
    refine lv_iconst (v := 0) hx hb dX11_doesFit_9 (by decide) ?_
    exact q_zret C hr hlocks (Or.inl rfl) hK hP hD hS (Nat.le_of_ble_eq_true rfl) (Nat.le_of_ble_eq_true rfl) dX11_doesFit_10 (by cases hB; exact ⟨rfl, rfl⟩)
theorem cr_doesFit {l : Launch} {dC : Nat → ClassId} {dI : Nat → Nat → Nat} {cB cI cJ cZ cS : ClassId} {h : Nat} {a : Nat → Nat} {r : Int32} {s' : RS} {s : RS} {x1 : Int32} {x2 : Int32} {x3 : Int32} (hB : r_doesFit s x1 x2 x3 = some (r, s')) : CI l yX11_doesFit wsX11_doesFit ({ frames := 2, cells := 0, slots := 0, locals := 44 }) (dC, dI) (tysA cB cI cJ cZ cS) (mwS cB cI cJ cZ h a s) [.ref h, .int x1, .int x2, .int x3] (fun x u => x = r ∧ u = (mwS cB cI cJ cZ h a s')) :=
  CI_of (cc := cX11_doesFit) (maxL := 6) (ret := (some .boolean)) (by decide) rfl (Nat.le_of_ble_eq_true rfl) (br_doesFit _ _ _ _ hB)
end
section
theorem ggX11_isAsked_X11_in : GoodIn wsX11_isAsked wsX11_in := gi_sub (fun w h => List.mem_cons_of_mem _ (List.mem_append_left _ (List.mem_append_right _ h))) gd_wsX11_in
set_option maxRecDepth 20000 in
theorem gX11_isAsked_X11_in : GoodIn wsX11_isAsked (va_wsS RX11 281 yX11_in wsX11_in) := goodIn_app (goodIn_of _ (by decide +kernel)) ggX11_isAsked_X11_in
theorem dX11_isAsked_0 : decode cX11_isAsked 0 = .ok (.iload_n 1, 1) := dc1_27 (by decide +kernel)
theorem dX11_isAsked_1 : decode cX11_isAsked 1 = .ok (.iconst 0, 1) := dc1_3 (by decide +kernel)
theorem dX11_isAsked_2 : decode cX11_isAsked 2 = .ok (.aload_n 0, 1) := dc1_42 (by decide +kernel)
theorem dX11_isAsked_3 : decode cX11_isAsked 3 = .ok (.getfield 233, 3) := dcw_180 (by decide +kernel)
theorem dX11_isAsked_6 : decode cX11_isAsked 6 = .ok (.invokestatic 281, 3) := dcw_184 (by decide +kernel)
theorem dX11_isAsked_9 : decode cX11_isAsked 9 = .ok (.ifCond .eq 16, 3) := dcs_153 (n := 16) (by decide +kernel)
theorem dX11_isAsked_12 : decode cX11_isAsked 12 = .ok (.iload_n 2, 1) := dc1_28 (by decide +kernel)
theorem dX11_isAsked_13 : decode cX11_isAsked 13 = .ok (.iconst 0, 1) := dc1_3 (by decide +kernel)
theorem dX11_isAsked_14 : decode cX11_isAsked 14 = .ok (.iconst 3, 1) := dc1_6 (by decide +kernel)
theorem dX11_isAsked_15 : decode cX11_isAsked 15 = .ok (.invokestatic 281, 3) := dcw_184 (by decide +kernel)
theorem dX11_isAsked_18 : decode cX11_isAsked 18 = .ok (.ifCond .eq 7, 3) := dcs_153 (n := 7) (by decide +kernel)
theorem dX11_isAsked_21 : decode cX11_isAsked 21 = .ok (.iconst 1, 1) := dc1_4 (by decide +kernel)
theorem dX11_isAsked_22 : decode cX11_isAsked 22 = .ok (.goto 4, 3) := dcs_167 (n := 4) (by decide +kernel)
theorem dX11_isAsked_25 : decode cX11_isAsked 25 = .ok (.iconst 0, 1) := dc1_3 (by decide +kernel)
theorem dX11_isAsked_26 : decode cX11_isAsked 26 = .ok (.ireturn, 1) := dc1_172 (by decide +kernel)
theorem ggX11_fit_X11_isAsked : GoodIn wsX11_fit wsX11_isAsked := gi_sub (fun w h => List.mem_cons_of_mem _ (List.mem_append_left _ (List.mem_append_right _ (List.mem_append_left _ h)))) gd_wsX11_isAsked
set_option maxRecDepth 20000 in
theorem gX11_fit_X11_isAsked : GoodIn wsX11_fit (wsV RX11 422 RX11 yX11_isAsked wsX11_isAsked) := goodIn_app (goodIn_r _ [2, 3, 4, 5] (by decide +kernel) (by decide +kernel)) ggX11_fit_X11_isAsked
theorem ggX11_fit_X11_in : GoodIn wsX11_fit wsX11_in := gi_sub (fun w h => List.mem_cons_of_mem _ (List.mem_append_left _ (List.mem_append_right _ (List.mem_append_right _ (List.mem_append_left _ h))))) gd_wsX11_in
set_option maxRecDepth 20000 in
theorem gX11_fit_X11_in : GoodIn wsX11_fit (va_wsS RX11 281 yX11_in wsX11_in) := goodIn_app (goodIn_of _ (by decide +kernel)) ggX11_fit_X11_in
theorem ggX11_fit_X11_fillsChances : GoodIn wsX11_fit wsX11_fillsChances := gi_sub (fun w h => List.mem_cons_of_mem _ (List.mem_append_left _ (List.mem_append_right _ (List.mem_append_right _ (List.mem_append_right _ (List.mem_append_left _ h)))))) gd_wsX11_fillsChances
set_option maxRecDepth 20000 in
theorem gX11_fit_X11_fillsChances : GoodIn wsX11_fit (wsV RX11 404 RX11 yX11_fillsChances wsX11_fillsChances) := goodIn_app (goodIn_r _ [8, 9, 10, 5] (by decide +kernel) (by decide +kernel)) ggX11_fit_X11_fillsChances
theorem ggX11_fit_X11_guesses : GoodIn wsX11_fit wsX11_guesses := gi_sub (fun w h => List.mem_cons_of_mem _ (List.mem_append_left _ (List.mem_append_right _ (List.mem_append_right _ (List.mem_append_right _ (List.mem_append_right _ (List.mem_append_left _ h))))))) gd_wsX11_guesses
set_option maxRecDepth 20000 in
theorem gX11_fit_X11_guesses : GoodIn wsX11_fit (wsV RX11 285 RX11 yX11_guesses wsX11_guesses) := goodIn_app (goodIn_r _ [11, 12, 13, 5] (by decide +kernel) (by decide +kernel)) ggX11_fit_X11_guesses
theorem ggX11_fit_X11_doesFit : GoodIn wsX11_fit wsX11_doesFit := gi_sub (fun w h => List.mem_cons_of_mem _ (List.mem_append_left _ (List.mem_append_right _ (List.mem_append_right _ (List.mem_append_right _ (List.mem_append_right _ (List.mem_append_right _ h))))))) gd_wsX11_doesFit
set_option maxRecDepth 20000 in
theorem gX11_fit_X11_doesFit : GoodIn wsX11_fit (wsV RX11 425 RX11 yX11_doesFit wsX11_doesFit) := goodIn_app (goodIn_r _ [14, 15, 16, 5] (by decide +kernel) (by decide +kernel)) ggX11_fit_X11_doesFit
theorem dX11_fit_0 : decode cX11_fit 0 = .ok (.aload_n 0, 1) := dc1_42 (by decide +kernel)
theorem dX11_fit_1 : decode cX11_fit 1 = .ok (.iload_n 1, 1) := dc1_27 (by decide +kernel)
theorem dX11_fit_2 : decode cX11_fit 2 = .ok (.iload_n 2, 1) := dc1_28 (by decide +kernel)
theorem dX11_fit_3 : decode cX11_fit 3 = .ok (.invokevirtual 422, 3) := dcw_182 (by decide +kernel)
theorem dX11_fit_6 : decode cX11_fit 6 = .ok (.ifCond .eq 12, 3) := dcs_153 (n := 12) (by decide +kernel)
theorem dX11_fit_9 : decode cX11_fit 9 = .ok (.iload_n 3, 1) := dc1_29 (by decide +kernel)
theorem dX11_fit_10 : decode cX11_fit 10 = .ok (.iconst 0, 1) := dc1_3 (by decide +kernel)
theorem dX11_fit_11 : decode cX11_fit 11 = .ok (.iconst 1, 1) := dc1_4 (by decide +kernel)
theorem dX11_fit_12 : decode cX11_fit 12 = .ok (.invokestatic 281, 3) := dcw_184 (by decide +kernel)
theorem dX11_fit_15 : decode cX11_fit 15 = .ok (.ifCond .ne 5, 3) := dcs_154 (n := 5) (by decide +kernel)
theorem dX11_fit_18 : decode cX11_fit 18 = .ok (.iconst (-1), 1) := dc1_2 (by decide +kernel)
theorem dX11_fit_19 : decode cX11_fit 19 = .ok (.ireturn, 1) := dc1_172 (by decide +kernel)
theorem dX11_fit_20 : decode cX11_fit 20 = .ok (.aload_n 0, 1) := dc1_42 (by decide +kernel)
theorem dX11_fit_21 : decode cX11_fit 21 = .ok (.invokevirtual 404, 3) := dcw_182 (by decide +kernel)
theorem dX11_fit_24 : decode cX11_fit 24 = .ok (.iconst 0, 1) := dc1_3 (by decide +kernel)
theorem dX11_fit_25 : decode cX11_fit 25 = .ok (.istore 4, 2) := dcu_54 (by decide +kernel)
theorem dX11_fit_27 : decode cX11_fit 27 = .ok (.iconst 0, 1) := dc1_3 (by decide +kernel)
theorem dX11_fit_28 : decode cX11_fit 28 = .ok (.istore 5, 2) := dcu_54 (by decide +kernel)
theorem dX11_fit_30 : decode cX11_fit 30 = .ok (.iload 5, 2) := dcu_21 (by decide +kernel)
theorem dX11_fit_32 : decode cX11_fit 32 = .ok (.aload_n 0, 1) := dc1_42 (by decide +kernel)
theorem dX11_fit_33 : decode cX11_fit 33 = .ok (.invokevirtual 285, 3) := dcw_182 (by decide +kernel)
theorem dX11_fit_36 : decode cX11_fit 36 = .ok (.if_icmp .ge 40, 3) := dcs_162 (n := 40) (by decide +kernel)
theorem dX11_fit_39 : decode cX11_fit 39 = .ok (.aload_n 0, 1) := dc1_42 (by decide +kernel)
theorem dX11_fit_40 : decode cX11_fit 40 = .ok (.iload 5, 2) := dcu_21 (by decide +kernel)
theorem dX11_fit_42 : decode cX11_fit 42 = .ok (.iload_n 1, 1) := dc1_27 (by decide +kernel)
theorem dX11_fit_43 : decode cX11_fit 43 = .ok (.iload_n 2, 1) := dc1_28 (by decide +kernel)
theorem dX11_fit_44 : decode cX11_fit 44 = .ok (.invokevirtual 425, 3) := dcw_182 (by decide +kernel)
theorem dX11_fit_47 : decode cX11_fit 47 = .ok (.ifCond .eq 23, 3) := dcs_153 (n := 23) (by decide +kernel)
theorem dX11_fit_50 : decode cX11_fit 50 = .ok (.iload 4, 2) := dcu_21 (by decide +kernel)
theorem dX11_fit_52 : decode cX11_fit 52 = .ok (.iload_n 3, 1) := dc1_29 (by decide +kernel)
theorem dX11_fit_53 : decode cX11_fit 53 = .ok (.ifCond .ne 7, 3) := dcs_154 (n := 7) (by decide +kernel)
theorem dX11_fit_56 : decode cX11_fit 56 = .ok (.iconst 1, 1) := dc1_4 (by decide +kernel)
theorem dX11_fit_57 : decode cX11_fit 57 = .ok (.goto 10, 3) := dcs_167 (n := 10) (by decide +kernel)
theorem dX11_fit_60 : decode cX11_fit 60 = .ok (.aload_n 0, 1) := dc1_42 (by decide +kernel)
theorem dX11_fit_61 : decode cX11_fit 61 = .ok (.getfield 113, 3) := dcw_180 (by decide +kernel)
theorem dX11_fit_64 : decode cX11_fit 64 = .ok (.iload 5, 2) := dcu_21 (by decide +kernel)
theorem dX11_fit_66 : decode cX11_fit 66 = .ok (.iaload, 1) := dc1_46 (by decide +kernel)
theorem dX11_fit_67 : decode cX11_fit 67 = .ok (.iadd, 1) := dc1_96 (by decide +kernel)
theorem dX11_fit_68 : decode cX11_fit 68 = .ok (.istore 4, 2) := dcu_54 (by decide +kernel)
theorem dX11_fit_70 : decode cX11_fit 70 = .ok (.iinc 5 1, 3) := dc_iinc (m := 1) (by decide +kernel)
theorem dX11_fit_73 : decode cX11_fit 73 = .ok (.goto (-43), 3) := dcs_167 (n := 65493) (by decide +kernel)
theorem dX11_fit_76 : decode cX11_fit 76 = .ok (.iload 4, 2) := dcu_21 (by decide +kernel)
theorem dX11_fit_78 : decode cX11_fit 78 = .ok (.ireturn, 1) := dc1_172 (by decide +kernel)
theorem ggX11_lie_X11_isAsked : GoodIn wsX11_lie wsX11_isAsked := gi_sub (fun w h => List.mem_cons_of_mem _ (List.mem_append_left _ (List.mem_append_right _ (List.mem_append_left _ h)))) gd_wsX11_isAsked
set_option maxRecDepth 20000 in
theorem gX11_lie_X11_isAsked : GoodIn wsX11_lie (wsV RX11 422 RX11 yX11_isAsked wsX11_isAsked) := goodIn_app (goodIn_r _ [1, 2, 3, 4] (by decide +kernel) (by decide +kernel)) ggX11_lie_X11_isAsked
theorem ggX11_lie_X11_fillsChances : GoodIn wsX11_lie wsX11_fillsChances := gi_sub (fun w h => List.mem_cons_of_mem _ (List.mem_append_left _ (List.mem_append_right _ (List.mem_append_right _ (List.mem_append_left _ h))))) gd_wsX11_fillsChances
set_option maxRecDepth 20000 in
theorem gX11_lie_X11_fillsChances : GoodIn wsX11_lie (wsV RX11 404 RX11 yX11_fillsChances wsX11_fillsChances) := goodIn_app (goodIn_r _ [5, 6, 7, 4] (by decide +kernel) (by decide +kernel)) ggX11_lie_X11_fillsChances
theorem ggX11_lie_X11_guesses : GoodIn wsX11_lie wsX11_guesses := gi_sub (fun w h => List.mem_cons_of_mem _ (List.mem_append_left _ (List.mem_append_right _ (List.mem_append_right _ (List.mem_append_right _ (List.mem_append_left _ h)))))) gd_wsX11_guesses
set_option maxRecDepth 20000 in
theorem gX11_lie_X11_guesses : GoodIn wsX11_lie (wsV RX11 285 RX11 yX11_guesses wsX11_guesses) := goodIn_app (goodIn_r _ [8, 9, 10, 4] (by decide +kernel) (by decide +kernel)) ggX11_lie_X11_guesses
theorem ggX11_lie_X11_doesFit : GoodIn wsX11_lie wsX11_doesFit := gi_sub (fun w h => List.mem_cons_of_mem _ (List.mem_append_left _ (List.mem_append_right _ (List.mem_append_right _ (List.mem_append_right _ (List.mem_append_right _ (List.mem_append_left _ h))))))) gd_wsX11_doesFit
set_option maxRecDepth 20000 in
theorem gX11_lie_X11_doesFit : GoodIn wsX11_lie (wsV RX11 425 RX11 yX11_doesFit wsX11_doesFit) := goodIn_app (goodIn_r _ [11, 12, 13, 4] (by decide +kernel) (by decide +kernel)) ggX11_lie_X11_doesFit
theorem ggX11_lie_X11_isSo : GoodIn wsX11_lie wsX11_isSo := gi_sub (fun w h => List.mem_cons_of_mem _ (List.mem_append_left _ (List.mem_append_right _ (List.mem_append_right _ (List.mem_append_right _ (List.mem_append_right _ (List.mem_append_right _ h))))))) gd_wsX11_isSo
set_option maxRecDepth 20000 in
theorem gX11_lie_X11_isSo : GoodIn wsX11_lie (wsV RX11 419 RX11 yX11_isSo wsX11_isSo) := goodIn_app (goodIn_r _ [14, 15, 16, 4] (by decide +kernel) (by decide +kernel)) ggX11_lie_X11_isSo
theorem dX11_lie_0 : decode cX11_lie 0 = .ok (.aload_n 0, 1) := dc1_42 (by decide +kernel)
theorem dX11_lie_1 : decode cX11_lie 1 = .ok (.iload_n 1, 1) := dc1_27 (by decide +kernel)
theorem dX11_lie_2 : decode cX11_lie 2 = .ok (.iload_n 2, 1) := dc1_28 (by decide +kernel)
theorem dX11_lie_3 : decode cX11_lie 3 = .ok (.invokevirtual 422, 3) := dcw_182 (by decide +kernel)
theorem dX11_lie_6 : decode cX11_lie 6 = .ok (.ifCond .ne 5, 3) := dcs_154 (n := 5) (by decide +kernel)
theorem dX11_lie_9 : decode cX11_lie 9 = .ok (.iconst (-1), 1) := dc1_2 (by decide +kernel)
theorem dX11_lie_10 : decode cX11_lie 10 = .ok (.ireturn, 1) := dc1_172 (by decide +kernel)
theorem dX11_lie_11 : decode cX11_lie 11 = .ok (.aload_n 0, 1) := dc1_42 (by decide +kernel)
theorem dX11_lie_12 : decode cX11_lie 12 = .ok (.invokevirtual 404, 3) := dcw_182 (by decide +kernel)
theorem dX11_lie_15 : decode cX11_lie 15 = .ok (.iconst 1, 1) := dc1_4 (by decide +kernel)
theorem dX11_lie_16 : decode cX11_lie 16 = .ok (.iload_n 1, 1) := dc1_27 (by decide +kernel)
theorem dX11_lie_17 : decode cX11_lie 17 = .ok (.ishl, 1) := dc1_120 (by decide +kernel)
theorem dX11_lie_18 : decode cX11_lie 18 = .ok (.iconst 1, 1) := dc1_4 (by decide +kernel)
theorem dX11_lie_19 : decode cX11_lie 19 = .ok (.isub, 1) := dc1_100 (by decide +kernel)
theorem dX11_lie_20 : decode cX11_lie 20 = .ok (.istore_n 3, 1) := dc1_62 (by decide +kernel)
theorem dX11_lie_21 : decode cX11_lie 21 = .ok (.iconst 0, 1) := dc1_3 (by decide +kernel)
theorem dX11_lie_22 : decode cX11_lie 22 = .ok (.istore 4, 2) := dcu_54 (by decide +kernel)
theorem dX11_lie_24 : decode cX11_lie 24 = .ok (.iload 4, 2) := dcu_21 (by decide +kernel)
theorem dX11_lie_26 : decode cX11_lie 26 = .ok (.aload_n 0, 1) := dc1_42 (by decide +kernel)
theorem dX11_lie_27 : decode cX11_lie 27 = .ok (.invokevirtual 285, 3) := dcw_182 (by decide +kernel)
theorem dX11_lie_30 : decode cX11_lie 30 = .ok (.if_icmp .ge 58, 3) := dcs_162 (n := 58) (by decide +kernel)
theorem dX11_lie_33 : decode cX11_lie 33 = .ok (.aload_n 0, 1) := dc1_42 (by decide +kernel)
theorem dX11_lie_34 : decode cX11_lie 34 = .ok (.iload 4, 2) := dcu_21 (by decide +kernel)
theorem dX11_lie_36 : decode cX11_lie 36 = .ok (.iload_n 1, 1) := dc1_27 (by decide +kernel)
theorem dX11_lie_37 : decode cX11_lie 37 = .ok (.iload_n 2, 1) := dc1_28 (by decide +kernel)
theorem dX11_lie_38 : decode cX11_lie 38 = .ok (.invokevirtual 425, 3) := dcw_182 (by decide +kernel)
theorem dX11_lie_41 : decode cX11_lie 41 = .ok (.ifCond .ne 6, 3) := dcs_154 (n := 6) (by decide +kernel)
theorem dX11_lie_44 : decode cX11_lie 44 = .ok (.goto 38, 3) := dcs_167 (n := 38) (by decide +kernel)
theorem dX11_lie_47 : decode cX11_lie 47 = .ok (.iconst 0, 1) := dc1_3 (by decide +kernel)
theorem dX11_lie_48 : decode cX11_lie 48 = .ok (.istore 5, 2) := dcu_54 (by decide +kernel)
theorem dX11_lie_50 : decode cX11_lie 50 = .ok (.iload 5, 2) := dcu_21 (by decide +kernel)
theorem dX11_lie_52 : decode cX11_lie 52 = .ok (.iload_n 1, 1) := dc1_27 (by decide +kernel)
theorem dX11_lie_53 : decode cX11_lie 53 = .ok (.if_icmp .ge 29, 3) := dcs_162 (n := 29) (by decide +kernel)
theorem dX11_lie_56 : decode cX11_lie 56 = .ok (.aload_n 0, 1) := dc1_42 (by decide +kernel)
theorem dX11_lie_57 : decode cX11_lie 57 = .ok (.iload 4, 2) := dcu_21 (by decide +kernel)
theorem dX11_lie_59 : decode cX11_lie 59 = .ok (.iload 5, 2) := dcu_21 (by decide +kernel)
theorem dX11_lie_61 : decode cX11_lie 61 = .ok (.invokevirtual 419, 3) := dcw_182 (by decide +kernel)
theorem dX11_lie_64 : decode cX11_lie 64 = .ok (.ifCond .eq 12, 3) := dcs_153 (n := 12) (by decide +kernel)
theorem dX11_lie_67 : decode cX11_lie 67 = .ok (.iload_n 3, 1) := dc1_29 (by decide +kernel)
theorem dX11_lie_68 : decode cX11_lie 68 = .ok (.iconst 1, 1) := dc1_4 (by decide +kernel)
theorem dX11_lie_69 : decode cX11_lie 69 = .ok (.iload 5, 2) := dcu_21 (by decide +kernel)
theorem dX11_lie_71 : decode cX11_lie 71 = .ok (.ishl, 1) := dc1_120 (by decide +kernel)
theorem dX11_lie_72 : decode cX11_lie 72 = .ok (.iconst (-1), 1) := dc1_2 (by decide +kernel)
theorem dX11_lie_73 : decode cX11_lie 73 = .ok (.ixor, 1) := dc1_130 (by decide +kernel)
theorem dX11_lie_74 : decode cX11_lie 74 = .ok (.iand, 1) := dc1_126 (by decide +kernel)
theorem dX11_lie_75 : decode cX11_lie 75 = .ok (.istore_n 3, 1) := dc1_62 (by decide +kernel)
theorem dX11_lie_76 : decode cX11_lie 76 = .ok (.iinc 5 1, 3) := dc_iinc (m := 1) (by decide +kernel)
theorem dX11_lie_79 : decode cX11_lie 79 = .ok (.goto (-29), 3) := dcs_167 (n := 65507) (by decide +kernel)
theorem dX11_lie_82 : decode cX11_lie 82 = .ok (.iinc 4 1, 3) := dc_iinc (m := 1) (by decide +kernel)
theorem dX11_lie_85 : decode cX11_lie 85 = .ok (.goto (-61), 3) := dcs_167 (n := 65475) (by decide +kernel)
theorem dX11_lie_88 : decode cX11_lie 88 = .ok (.iload_n 3, 1) := dc1_29 (by decide +kernel)
theorem dX11_lie_89 : decode cX11_lie 89 = .ok (.ireturn, 1) := dc1_172 (by decide +kernel)
theorem dX11_worstAt_0 : decode cX11_worstAt 0 = .ok (.iconst 0, 1) := dc1_3 (by decide +kernel)
theorem dX11_worstAt_1 : decode cX11_worstAt 1 = .ok (.istore_n 2, 1) := dc1_61 (by decide +kernel)
theorem dX11_worstAt_2 : decode cX11_worstAt 2 = .ok (.iconst 0, 1) := dc1_3 (by decide +kernel)
theorem dX11_worstAt_3 : decode cX11_worstAt 3 = .ok (.istore_n 3, 1) := dc1_62 (by decide +kernel)
theorem dX11_worstAt_4 : decode cX11_worstAt 4 = .ok (.iload_n 3, 1) := dc1_29 (by decide +kernel)
theorem dX11_worstAt_5 : decode cX11_worstAt 5 = .ok (.bipush 6, 2) := dcb_16 (n := 6) (by decide +kernel)
theorem dX11_worstAt_7 : decode cX11_worstAt 7 = .ok (.if_icmp .ge 36, 3) := dcs_162 (n := 36) (by decide +kernel)
theorem dX11_worstAt_10 : decode cX11_worstAt 10 = .ok (.aload_n 0, 1) := dc1_42 (by decide +kernel)
theorem dX11_worstAt_11 : decode cX11_worstAt 11 = .ok (.getfield 125, 3) := dcw_180 (by decide +kernel)
theorem dX11_worstAt_14 : decode cX11_worstAt 14 = .ok (.bipush 6, 2) := dcb_16 (n := 6) (by decide +kernel)
theorem dX11_worstAt_16 : decode cX11_worstAt 16 = .ok (.iload_n 1, 1) := dc1_27 (by decide +kernel)
theorem dX11_worstAt_17 : decode cX11_worstAt 17 = .ok (.imul, 1) := dc1_104 (by decide +kernel)
theorem dX11_worstAt_18 : decode cX11_worstAt 18 = .ok (.iload_n 3, 1) := dc1_29 (by decide +kernel)
theorem dX11_worstAt_19 : decode cX11_worstAt 19 = .ok (.iadd, 1) := dc1_96 (by decide +kernel)
theorem dX11_worstAt_20 : decode cX11_worstAt 20 = .ok (.iaload, 1) := dc1_46 (by decide +kernel)
theorem dX11_worstAt_21 : decode cX11_worstAt 21 = .ok (.iload_n 2, 1) := dc1_28 (by decide +kernel)
theorem dX11_worstAt_22 : decode cX11_worstAt 22 = .ok (.if_icmp .le 15, 3) := dcs_164 (n := 15) (by decide +kernel)
theorem dX11_worstAt_25 : decode cX11_worstAt 25 = .ok (.aload_n 0, 1) := dc1_42 (by decide +kernel)
theorem dX11_worstAt_26 : decode cX11_worstAt 26 = .ok (.getfield 125, 3) := dcw_180 (by decide +kernel)
theorem dX11_worstAt_29 : decode cX11_worstAt 29 = .ok (.bipush 6, 2) := dcb_16 (n := 6) (by decide +kernel)
theorem dX11_worstAt_31 : decode cX11_worstAt 31 = .ok (.iload_n 1, 1) := dc1_27 (by decide +kernel)
theorem dX11_worstAt_32 : decode cX11_worstAt 32 = .ok (.imul, 1) := dc1_104 (by decide +kernel)
theorem dX11_worstAt_33 : decode cX11_worstAt 33 = .ok (.iload_n 3, 1) := dc1_29 (by decide +kernel)
theorem dX11_worstAt_34 : decode cX11_worstAt 34 = .ok (.iadd, 1) := dc1_96 (by decide +kernel)
theorem dX11_worstAt_35 : decode cX11_worstAt 35 = .ok (.iaload, 1) := dc1_46 (by decide +kernel)
theorem dX11_worstAt_36 : decode cX11_worstAt 36 = .ok (.istore_n 2, 1) := dc1_61 (by decide +kernel)
theorem dX11_worstAt_37 : decode cX11_worstAt 37 = .ok (.iinc 3 1, 3) := dc_iinc (m := 1) (by decide +kernel)
theorem dX11_worstAt_40 : decode cX11_worstAt 40 = .ok (.goto (-36), 3) := dcs_167 (n := 65500) (by decide +kernel)
theorem dX11_worstAt_43 : decode cX11_worstAt 43 = .ok (.iload_n 2, 1) := dc1_28 (by decide +kernel)
theorem dX11_worstAt_44 : decode cX11_worstAt 44 = .ok (.ireturn, 1) := dc1_172 (by decide +kernel)
theorem ggX11_ask_X11_isAsked : GoodIn wsX11_ask wsX11_isAsked := gi_sub (fun w h => List.mem_cons_of_mem _ (List.mem_append_left _ (List.mem_append_right _ (List.mem_append_left _ h)))) gd_wsX11_isAsked
set_option maxRecDepth 20000 in
theorem gX11_ask_X11_isAsked : GoodIn wsX11_ask (wsV RX11 422 RX11 yX11_isAsked wsX11_isAsked) := goodIn_app (goodIn_r _ [4, 5, 6, 7] (by decide +kernel) (by decide +kernel)) ggX11_ask_X11_isAsked
theorem ggX11_ask_X11_fillsChances : GoodIn wsX11_ask wsX11_fillsChances := gi_sub (fun w h => List.mem_cons_of_mem _ (List.mem_append_left _ (List.mem_append_right _ (List.mem_append_right _ (List.mem_append_left _ h))))) gd_wsX11_fillsChances
set_option maxRecDepth 20000 in
theorem gX11_ask_X11_fillsChances : GoodIn wsX11_ask (wsV RX11 404 RX11 yX11_fillsChances wsX11_fillsChances) := goodIn_app (goodIn_r _ [8, 9, 10, 7] (by decide +kernel) (by decide +kernel)) ggX11_ask_X11_fillsChances
theorem ggX11_ask_X11_guesses : GoodIn wsX11_ask wsX11_guesses := gi_sub (fun w h => List.mem_cons_of_mem _ (List.mem_append_left _ (List.mem_append_right _ (List.mem_append_right _ (List.mem_append_right _ (List.mem_append_left _ h)))))) gd_wsX11_guesses
set_option maxRecDepth 20000 in
theorem gX11_ask_X11_guesses : GoodIn wsX11_ask (wsV RX11 285 RX11 yX11_guesses wsX11_guesses) := goodIn_app (goodIn_r _ [11, 12, 13, 7] (by decide +kernel) (by decide +kernel)) ggX11_ask_X11_guesses
theorem ggX11_ask_X11_doesFit : GoodIn wsX11_ask wsX11_doesFit := gi_sub (fun w h => List.mem_cons_of_mem _ (List.mem_append_left _ (List.mem_append_right _ (List.mem_append_right _ (List.mem_append_right _ (List.mem_append_right _ (List.mem_append_left _ h))))))) gd_wsX11_doesFit
set_option maxRecDepth 20000 in
theorem gX11_ask_X11_doesFit : GoodIn wsX11_ask (wsV RX11 425 RX11 yX11_doesFit wsX11_doesFit) := goodIn_app (goodIn_r _ [17, 18, 19, 7] (by decide +kernel) (by decide +kernel)) ggX11_ask_X11_doesFit
theorem ggX11_ask_X11_thingAt : GoodIn wsX11_ask wsX11_thingAt := gi_sub (fun w h => List.mem_cons_of_mem _ (List.mem_append_left _ (List.mem_append_right _ (List.mem_append_right _ (List.mem_append_right _ (List.mem_append_right _ (List.mem_append_right _ (List.mem_append_left _ h)))))))) gd_wsX11_thingAt
set_option maxRecDepth 20000 in
theorem gX11_ask_X11_thingAt : GoodIn wsX11_ask (wsV RX11 330 RX11 yX11_thingAt wsX11_thingAt) := goodIn_app (goodIn_r _ [14, 15, 16, 7] (by decide +kernel) (by decide +kernel)) ggX11_ask_X11_thingAt
theorem ggX11_ask_X11_worstAt : GoodIn wsX11_ask wsX11_worstAt := gi_sub (fun w h => List.mem_cons_of_mem _ (List.mem_append_left _ (List.mem_append_right _ (List.mem_append_right _ (List.mem_append_right _ (List.mem_append_right _ (List.mem_append_right _ (List.mem_append_right _ h)))))))) gd_wsX11_worstAt
set_option maxRecDepth 20000 in
theorem gX11_ask_X11_worstAt : GoodIn wsX11_ask (wsV RX11 428 RX11 yX11_worstAt wsX11_worstAt) := goodIn_app (goodIn_r _ [20, 21, 22, 7] (by decide +kernel) (by decide +kernel)) ggX11_ask_X11_worstAt
theorem dX11_ask_0 : decode cX11_ask 0 = .ok (.aload_n 0, 1) := dc1_42 (by decide +kernel)
theorem dX11_ask_1 : decode cX11_ask 1 = .ok (.iload_n 1, 1) := dc1_27 (by decide +kernel)
theorem dX11_ask_2 : decode cX11_ask 2 = .ok (.iload_n 2, 1) := dc1_28 (by decide +kernel)
theorem dX11_ask_3 : decode cX11_ask 3 = .ok (.invokevirtual 422, 3) := dcw_182 (by decide +kernel)
theorem dX11_ask_6 : decode cX11_ask 6 = .ok (.ifCond .ne 5, 3) := dcs_154 (n := 5) (by decide +kernel)
theorem dX11_ask_9 : decode cX11_ask 9 = .ok (.iconst (-1), 1) := dc1_2 (by decide +kernel)
theorem dX11_ask_10 : decode cX11_ask 10 = .ok (.ireturn, 1) := dc1_172 (by decide +kernel)
theorem dX11_ask_11 : decode cX11_ask 11 = .ok (.aload_n 0, 1) := dc1_42 (by decide +kernel)
theorem dX11_ask_12 : decode cX11_ask 12 = .ok (.invokevirtual 404, 3) := dcw_182 (by decide +kernel)
theorem dX11_ask_15 : decode cX11_ask 15 = .ok (.iconst 0, 1) := dc1_3 (by decide +kernel)
theorem dX11_ask_16 : decode cX11_ask 16 = .ok (.istore_n 3, 1) := dc1_62 (by decide +kernel)
theorem dX11_ask_17 : decode cX11_ask 17 = .ok (.iload_n 3, 1) := dc1_29 (by decide +kernel)
theorem dX11_ask_18 : decode cX11_ask 18 = .ok (.bipush 30, 2) := dcb_16 (n := 30) (by decide +kernel)
theorem dX11_ask_20 : decode cX11_ask 20 = .ok (.if_icmp .ge 16, 3) := dcs_162 (n := 16) (by decide +kernel)
theorem dX11_ask_23 : decode cX11_ask 23 = .ok (.aload_n 0, 1) := dc1_42 (by decide +kernel)
theorem dX11_ask_24 : decode cX11_ask 24 = .ok (.getfield 125, 3) := dcw_180 (by decide +kernel)
theorem dX11_ask_27 : decode cX11_ask 27 = .ok (.iload_n 3, 1) := dc1_29 (by decide +kernel)
theorem dX11_ask_28 : decode cX11_ask 28 = .ok (.iconst 0, 1) := dc1_3 (by decide +kernel)
theorem dX11_ask_29 : decode cX11_ask 29 = .ok (.iastore, 1) := dc1_79 (by decide +kernel)
theorem dX11_ask_30 : decode cX11_ask 30 = .ok (.iinc 3 1, 3) := dc_iinc (m := 1) (by decide +kernel)
theorem dX11_ask_33 : decode cX11_ask 33 = .ok (.goto (-16), 3) := dcs_167 (n := 65520) (by decide +kernel)
theorem dX11_ask_36 : decode cX11_ask 36 = .ok (.iconst 0, 1) := dc1_3 (by decide +kernel)
theorem dX11_ask_37 : decode cX11_ask 37 = .ok (.istore_n 3, 1) := dc1_62 (by decide +kernel)
theorem dX11_ask_38 : decode cX11_ask 38 = .ok (.iconst 0, 1) := dc1_3 (by decide +kernel)
theorem dX11_ask_39 : decode cX11_ask 39 = .ok (.istore 4, 2) := dcu_54 (by decide +kernel)
theorem dX11_ask_41 : decode cX11_ask 41 = .ok (.iload 4, 2) := dcu_21 (by decide +kernel)
theorem dX11_ask_43 : decode cX11_ask 43 = .ok (.aload_n 0, 1) := dc1_42 (by decide +kernel)
theorem dX11_ask_44 : decode cX11_ask 44 = .ok (.invokevirtual 285, 3) := dcw_182 (by decide +kernel)
theorem dX11_ask_47 : decode cX11_ask 47 = .ok (.if_icmp .ge 72, 3) := dcs_162 (n := 72) (by decide +kernel)
theorem dX11_ask_50 : decode cX11_ask 50 = .ok (.aload_n 0, 1) := dc1_42 (by decide +kernel)
theorem dX11_ask_51 : decode cX11_ask 51 = .ok (.iload 4, 2) := dcu_21 (by decide +kernel)
theorem dX11_ask_53 : decode cX11_ask 53 = .ok (.iload_n 1, 1) := dc1_27 (by decide +kernel)
theorem dX11_ask_54 : decode cX11_ask 54 = .ok (.iload_n 2, 1) := dc1_28 (by decide +kernel)
theorem dX11_ask_55 : decode cX11_ask 55 = .ok (.invokevirtual 425, 3) := dcw_182 (by decide +kernel)
theorem dX11_ask_58 : decode cX11_ask 58 = .ok (.ifCond .ne 6, 3) := dcs_154 (n := 6) (by decide +kernel)
theorem dX11_ask_61 : decode cX11_ask 61 = .ok (.goto 52, 3) := dcs_167 (n := 52) (by decide +kernel)
theorem dX11_ask_64 : decode cX11_ask 64 = .ok (.iinc 3 1, 3) := dc_iinc (m := 1) (by decide +kernel)
theorem dX11_ask_67 : decode cX11_ask 67 = .ok (.iconst 0, 1) := dc1_3 (by decide +kernel)
theorem dX11_ask_68 : decode cX11_ask 68 = .ok (.istore 5, 2) := dcu_54 (by decide +kernel)
theorem dX11_ask_70 : decode cX11_ask 70 = .ok (.iload 5, 2) := dcu_21 (by decide +kernel)
theorem dX11_ask_72 : decode cX11_ask 72 = .ok (.aload_n 0, 1) := dc1_42 (by decide +kernel)
theorem dX11_ask_73 : decode cX11_ask 73 = .ok (.getfield 40, 3) := dcw_180 (by decide +kernel)
theorem dX11_ask_76 : decode cX11_ask 76 = .ok (.aload_n 0, 1) := dc1_42 (by decide +kernel)
theorem dX11_ask_77 : decode cX11_ask 77 = .ok (.getfield 215, 3) := dcw_180 (by decide +kernel)
theorem dX11_ask_80 : decode cX11_ask 80 = .ok (.iaload, 1) := dc1_46 (by decide +kernel)
theorem dX11_ask_81 : decode cX11_ask 81 = .ok (.if_icmp .ge 32, 3) := dcs_162 (n := 32) (by decide +kernel)
theorem dX11_ask_84 : decode cX11_ask 84 = .ok (.aload_n 0, 1) := dc1_42 (by decide +kernel)
theorem dX11_ask_85 : decode cX11_ask 85 = .ok (.getfield 125, 3) := dcw_180 (by decide +kernel)
theorem dX11_ask_88 : decode cX11_ask 88 = .ok (.bipush 6, 2) := dcb_16 (n := 6) (by decide +kernel)
theorem dX11_ask_90 : decode cX11_ask 90 = .ok (.iload 5, 2) := dcu_21 (by decide +kernel)
theorem dX11_ask_92 : decode cX11_ask 92 = .ok (.imul, 1) := dc1_104 (by decide +kernel)
theorem dX11_ask_93 : decode cX11_ask 93 = .ok (.aload_n 0, 1) := dc1_42 (by decide +kernel)
theorem dX11_ask_94 : decode cX11_ask 94 = .ok (.iload 4, 2) := dcu_21 (by decide +kernel)
theorem dX11_ask_96 : decode cX11_ask 96 = .ok (.iload 5, 2) := dcu_21 (by decide +kernel)
theorem dX11_ask_98 : decode cX11_ask 98 = .ok (.invokevirtual 330, 3) := dcw_182 (by decide +kernel)
theorem dX11_ask_101 : decode cX11_ask 101 = .ok (.iadd, 1) := dc1_96 (by decide +kernel)
theorem dX11_ask_102 : decode cX11_ask 102 = .ok (.dup2, 1) := dc1_92 (by decide +kernel)
theorem dX11_ask_103 : decode cX11_ask 103 = .ok (.iaload, 1) := dc1_46 (by decide +kernel)
theorem dX11_ask_104 : decode cX11_ask 104 = .ok (.iconst 1, 1) := dc1_4 (by decide +kernel)
theorem dX11_ask_105 : decode cX11_ask 105 = .ok (.iadd, 1) := dc1_96 (by decide +kernel)
theorem dX11_ask_106 : decode cX11_ask 106 = .ok (.iastore, 1) := dc1_79 (by decide +kernel)
theorem dX11_ask_107 : decode cX11_ask 107 = .ok (.iinc 5 1, 3) := dc_iinc (m := 1) (by decide +kernel)
theorem dX11_ask_110 : decode cX11_ask 110 = .ok (.goto (-40), 3) := dcs_167 (n := 65496) (by decide +kernel)
theorem dX11_ask_113 : decode cX11_ask 113 = .ok (.iinc 4 1, 3) := dc_iinc (m := 1) (by decide +kernel)
theorem dX11_ask_116 : decode cX11_ask 116 = .ok (.goto (-75), 3) := dcs_167 (n := 65461) (by decide +kernel)
theorem dX11_ask_119 : decode cX11_ask 119 = .ok (.bipush (-2), 2) := dcb_16 (n := 254) (by decide +kernel)
theorem dX11_ask_121 : decode cX11_ask 121 = .ok (.istore 4, 2) := dcu_54 (by decide +kernel)
theorem dX11_ask_123 : decode cX11_ask 123 = .ok (.iconst 0, 1) := dc1_3 (by decide +kernel)
theorem dX11_ask_124 : decode cX11_ask 124 = .ok (.istore 5, 2) := dcu_54 (by decide +kernel)
theorem dX11_ask_126 : decode cX11_ask 126 = .ok (.iload 5, 2) := dcu_21 (by decide +kernel)
theorem dX11_ask_128 : decode cX11_ask 128 = .ok (.aload_n 0, 1) := dc1_42 (by decide +kernel)
theorem dX11_ask_129 : decode cX11_ask 129 = .ok (.getfield 40, 3) := dcw_180 (by decide +kernel)
theorem dX11_ask_132 : decode cX11_ask 132 = .ok (.aload_n 0, 1) := dc1_42 (by decide +kernel)
theorem dX11_ask_133 : decode cX11_ask 133 = .ok (.getfield 215, 3) := dcw_180 (by decide +kernel)
theorem dX11_ask_136 : decode cX11_ask 136 = .ok (.iaload, 1) := dc1_46 (by decide +kernel)
theorem dX11_ask_137 : decode cX11_ask 137 = .ok (.if_icmp .ge 37, 3) := dcs_162 (n := 37) (by decide +kernel)
theorem dX11_ask_140 : decode cX11_ask 140 = .ok (.iload_n 3, 1) := dc1_29 (by decide +kernel)
theorem dX11_ask_141 : decode cX11_ask 141 = .ok (.ifCond .le 33, 3) := dcs_158 (n := 33) (by decide +kernel)
theorem dX11_ask_144 : decode cX11_ask 144 = .ok (.iload 4, 2) := dcu_21 (by decide +kernel)
theorem dX11_ask_146 : decode cX11_ask 146 = .ok (.ifCond .lt 18, 3) := dcs_155 (n := 18) (by decide +kernel)
theorem dX11_ask_149 : decode cX11_ask 149 = .ok (.aload_n 0, 1) := dc1_42 (by decide +kernel)
theorem dX11_ask_150 : decode cX11_ask 150 = .ok (.iload 5, 2) := dcu_21 (by decide +kernel)
theorem dX11_ask_152 : decode cX11_ask 152 = .ok (.invokevirtual 428, 3) := dcw_182 (by decide +kernel)
theorem dX11_ask_155 : decode cX11_ask 155 = .ok (.aload_n 0, 1) := dc1_42 (by decide +kernel)
theorem dX11_ask_156 : decode cX11_ask 156 = .ok (.iload 4, 2) := dcu_21 (by decide +kernel)
theorem dX11_ask_158 : decode cX11_ask 158 = .ok (.invokevirtual 428, 3) := dcw_182 (by decide +kernel)
theorem dX11_ask_161 : decode cX11_ask 161 = .ok (.if_icmp .ge 7, 3) := dcs_162 (n := 7) (by decide +kernel)
theorem dX11_ask_164 : decode cX11_ask 164 = .ok (.iload 5, 2) := dcu_21 (by decide +kernel)
theorem dX11_ask_166 : decode cX11_ask 166 = .ok (.istore 4, 2) := dcu_54 (by decide +kernel)
theorem dX11_ask_168 : decode cX11_ask 168 = .ok (.iinc 5 1, 3) := dc_iinc (m := 1) (by decide +kernel)
theorem dX11_ask_171 : decode cX11_ask 171 = .ok (.goto (-45), 3) := dcs_167 (n := 65491) (by decide +kernel)
theorem dX11_ask_174 : decode cX11_ask 174 = .ok (.iload 4, 2) := dcu_21 (by decide +kernel)
theorem dX11_ask_176 : decode cX11_ask 176 = .ok (.ireturn, 1) := dc1_172 (by decide +kernel)
theorem LX11_isAsked_233 : Cond.fieldLink RX11 233 "GuessFerryModel" "tolds" "I" ∈ wsX11_isAsked := (List.mem_cons_of_mem _ (List.mem_append_left _ (List.mem_append_left _ (List.mem_of_getElem? (i := 0) rfl))))
theorem inX11_isAsked_X11 : ∀ w ∈ u_ws RX11 TX11 58, w ∈ wsX11_isAsked := fun w h => (List.mem_cons_of_mem _ (List.mem_append_right _ h))
set_option maxHeartbeats 4000000 in
set_option maxRecDepth 100000 in
theorem br_isAsked {l : Launch} {dC : Nat → ClassId} {dI : Nat → Nat → Nat} {cB cI cJ cZ cS : ClassId} {h : Nat} {a : Nat → Nat} {as : List Value} {r : Int32} {s' : RS} (s : RS) (x1 : Int32) (x2 : Int32) (hB : r_isAsked s x1 x2 = some (r, s')) : BlkI l yX11_isAsked wsX11_isAsked ({ frames := 1, cells := 0, slots := 0, locals := 22 }) cX11_isAsked 3 (some .boolean) (dC, dI) (tysA cB cI cJ cZ cS) as 0 (mwS cB cI cJ cZ h a s) [(0, .ref h), (1, .int x1), (2, .int x2)] [] (fun x u => x = r ∧ u = (mwS cB cI cJ cZ h a s')) := by
  intro p e s0 m below meth c A E H locs ls hP hD hS hl
  obtain ⟨C, hr, hlocks, hA, hK, hN⟩ := id E
  obtain ⟨hx, hb, hml, hown, hts⟩ := id C
  unfold r_isAsked at hB
  refine lv_iload_n hx hb dX11_isAsked_0 rfl (lv_at hl 1 rfl) ?_
  refine lv_iconst (v := 0) hx hb dX11_isAsked_1 (by decide) ?_
  refine lv_aload_n hx hb dX11_isAsked_2 rfl (lv_at hl 0 rfl) ?_
  refine q_get (v := .int (s.v 51)) C inX11_isAsked_X11 hK hP 0 rfl rfl 51 (by decide) rfl LX11_isAsked_233 rfl dX11_isAsked_3 ?_
  obtain ⟨q_, hc, hB⟩ := bindP_inv hB
  refine q_goi0 (va_runS (As := [.int x1, .int 0, .int (s.v 51)]) (rest := []) C (cr_in hc _) (va_cwS 3 hts gX11_isAsked_X11_in rfl rfl rfl (by decide +kernel) ⟨Nat.le_of_ble_eq_true rfl, Nat.le_of_ble_eq_true rfl⟩) (q_pre0 hN hK) rfl rfl hl.1 rfl (lv_room (Nat.le_of_ble_eq_true rfl)) dX11_isAsked_6 ⟨Nat.le_of_ble_eq_true rfl, Nat.le_of_ble_eq_true rfl⟩) hP hD hS hA (fun r1 w1 H locs hw hP hS => ?_)
  subst hw
  refine lv_if_eq (tgt := 25) hx hb dX11_isAsked_9 (by decide) (fun c2 => ?_) (fun c2 => ?_)
  · have hB := if_p hB c2
    refine lv_iconst (v := 0) hx hb dX11_isAsked_25 (by decide) ?_
    exact q_zret C hr hlocks (Or.inl rfl) hK hP hD hS (Nat.le_of_ble_eq_true rfl) (Nat.le_of_ble_eq_true rfl) dX11_isAsked_26 (by cases hB; exact ⟨rfl, rfl⟩)
  · have hB := if_n hB c2
    refine lv_iload_n hx hb dX11_isAsked_12 rfl (lv_at hl 2 rfl) ?_
    refine lv_iconst (v := 0) hx hb dX11_isAsked_13 (by decide) ?_
    refine lv_iconst (v := 3) hx hb dX11_isAsked_14 (by decide) ?_
    obtain ⟨q_, hc, hB⟩ := bindP_inv hB
    refine q_goi0 (va_runS (As := [.int x2, .int 0, .int 3]) (rest := []) C (cr_in hc _) (va_cwS 3 hts gX11_isAsked_X11_in rfl rfl rfl (by decide +kernel) ⟨Nat.le_of_ble_eq_true rfl, Nat.le_of_ble_eq_true rfl⟩) (q_pre0 hN hK) rfl rfl hl.1 rfl (lv_room (Nat.le_of_ble_eq_true rfl)) dX11_isAsked_15 ⟨Nat.le_of_ble_eq_true rfl, Nat.le_of_ble_eq_true rfl⟩) hP hD hS hA (fun r3 w1 H locs hw hP hS => ?_)
    subst hw
    refine lv_if_eq (tgt := 25) hx hb dX11_isAsked_18 (by decide) (fun c4 => ?_) (fun c4 => ?_)
    · have hB := if_p hB c4
      refine lv_iconst (v := 0) hx hb dX11_isAsked_25 (by decide) ?_
      exact q_zret C hr hlocks (Or.inl rfl) hK hP hD hS (Nat.le_of_ble_eq_true rfl) (Nat.le_of_ble_eq_true rfl) dX11_isAsked_26 (by cases hB; exact ⟨rfl, rfl⟩)
    · have hB := if_n hB c4
      refine lv_iconst (v := 1) hx hb dX11_isAsked_21 (by decide) ?_
      refine lv_goto (tgt := 26) hx hb dX11_isAsked_22 (by decide) ?_
      exact q_zret C hr hlocks (Or.inr rfl) hK hP hD hS (Nat.le_of_ble_eq_true rfl) (Nat.le_of_ble_eq_true rfl) dX11_isAsked_26 (by cases hB; exact ⟨rfl, rfl⟩)
theorem cr_isAsked {l : Launch} {dC : Nat → ClassId} {dI : Nat → Nat → Nat} {cB cI cJ cZ cS : ClassId} {h : Nat} {a : Nat → Nat} {r : Int32} {s' : RS} {s : RS} {x1 : Int32} {x2 : Int32} (hB : r_isAsked s x1 x2 = some (r, s')) : CI l yX11_isAsked wsX11_isAsked ({ frames := 1, cells := 0, slots := 0, locals := 22 }) (dC, dI) (tysA cB cI cJ cZ cS) (mwS cB cI cJ cZ h a s) [.ref h, .int x1, .int x2] (fun x u => x = r ∧ u = (mwS cB cI cJ cZ h a s')) :=
  CI_of (cc := cX11_isAsked) (maxL := 3) (ret := (some .boolean)) (by decide) rfl (Nat.le_of_ble_eq_true rfl) (br_isAsked _ _ _ hB)
theorem LX11_fit_113 : Cond.fieldLink RX11 113 "GuessFerryModel" "chanceBy" "[I" ∈ wsX11_fit := (List.mem_cons_of_mem _ (List.mem_append_left _ (List.mem_append_left _ (List.mem_of_getElem? (i := 0) rfl))))
theorem inX11_fit_X11 : ∀ w ∈ u_ws RX11 TX11 58, w ∈ wsX11_fit := fun w h => (List.mem_cons_of_mem _ (List.mem_append_right _ h))
set_option maxHeartbeats 4000000 in
set_option maxRecDepth 100000 in
theorem br_fit_70 {l : Launch} {dC : Nat → ClassId} {dI : Nat → Nat → Nat} {cB cI cJ cZ cS : ClassId} {h : Nat} {a : Nat → Nat} {as : List Value} {r : Int32} {s' : RS} {k30 : RS → Int32 → Int32 → Int32 → Int32 → Int32 → Option (Int32 × RS)} (hk30 : ∀ (s : RS) (x1 : Int32) (x2 : Int32) (x3 : Int32) (x4 : Int32) (x5 : Int32), k30 s x1 x2 x3 x4 x5 = some (r, s') → BlkI l yX11_fit wsX11_fit ({ frames := 5, cells := 0, slots := 0, locals := 112 }) cX11_fit 6 (some .int) (dC, dI) (tysA cB cI cJ cZ cS) as 30 (mwS cB cI cJ cZ h a s) [(0, .ref h), (1, .int x1), (2, .int x2), (3, .int x3), (4, .int x4), (5, .int x5)] [] (fun x u => x = r ∧ u = (mwS cB cI cJ cZ h a s'))) (s : RS) (x1 : Int32) (x2 : Int32) (x3 : Int32) (x4 : Int32) (x5 : Int32) (hB : r_fit_70 k30 s x1 x2 x3 x4 x5 = some (r, s')) : BlkI l yX11_fit wsX11_fit ({ frames := 5, cells := 0, slots := 0, locals := 112 }) cX11_fit 6 (some .int) (dC, dI) (tysA cB cI cJ cZ cS) as 70 (mwS cB cI cJ cZ h a s) [(0, .ref h), (1, .int x1), (2, .int x2), (3, .int x3), (4, .int x4), (5, .int x5)] [] (fun x u => x = r ∧ u = (mwS cB cI cJ cZ h a s')) := by
  intro p e s0 m below meth c A E H locs ls hP hD hS hl
  obtain ⟨C, hr, hlocks, hA, hK, hN⟩ := id E
  obtain ⟨hx, hb, hml, hown, hts⟩ := id C
  unfold r_fit_70 at hB
  refine lv_iinc (v := (x5 + 1)) (lv' := [(5, .int (x5 + 1)), (0, .ref h), (1, .int x1), (2, .int x2), (3, .int x3), (4, .int x4)]) hx hb dX11_fit_70 hl (k := 5) rfl (rfl) (by decide) rfl (fun ls hl => ?_)
  refine lv_goto (tgt := 30) hx hb dX11_fit_73 (by decide) ?_
  exact hk30 _ _ _ _ _ _ hB p e s0 m below meth c A E H locs ls hP hD hS (lv_sub hl [1, 2, 3, 4, 5, 0] rfl)
set_option maxHeartbeats 4000000 in
set_option maxRecDepth 100000 in
theorem br_fit_67 {l : Launch} {dC : Nat → ClassId} {dI : Nat → Nat → Nat} {cB cI cJ cZ cS : ClassId} {h : Nat} {a : Nat → Nat} {as : List Value} {r : Int32} {s' : RS} {k30 : RS → Int32 → Int32 → Int32 → Int32 → Int32 → Option (Int32 × RS)} (hk30 : ∀ (s : RS) (x1 : Int32) (x2 : Int32) (x3 : Int32) (x4 : Int32) (x5 : Int32), k30 s x1 x2 x3 x4 x5 = some (r, s') → BlkI l yX11_fit wsX11_fit ({ frames := 5, cells := 0, slots := 0, locals := 112 }) cX11_fit 6 (some .int) (dC, dI) (tysA cB cI cJ cZ cS) as 30 (mwS cB cI cJ cZ h a s) [(0, .ref h), (1, .int x1), (2, .int x2), (3, .int x3), (4, .int x4), (5, .int x5)] [] (fun x u => x = r ∧ u = (mwS cB cI cJ cZ h a s'))) (s : RS) (x1 : Int32) (x2 : Int32) (x3 : Int32) (x5 : Int32) (t0 : Int32) (t1 : Int32) (hB : r_fit_67 k30 s x1 x2 x3 x5 t0 t1 = some (r, s')) : BlkI l yX11_fit wsX11_fit ({ frames := 5, cells := 0, slots := 0, locals := 112 }) cX11_fit 6 (some .int) (dC, dI) (tysA cB cI cJ cZ cS) as 67 (mwS cB cI cJ cZ h a s) [(0, .ref h), (1, .int x1), (2, .int x2), (3, .int x3), (5, .int x5)] [.int t0, .int t1] (fun x u => x = r ∧ u = (mwS cB cI cJ cZ h a s')) := by
  intro p e s0 m below meth c A E H locs ls hP hD hS hl
  obtain ⟨C, hr, hlocks, hA, hK, hN⟩ := id E
  obtain ⟨hx, hb, hml, hown, hts⟩ := id C
  unfold r_fit_67 at hB
  refine lv_iadd hx hb dX11_fit_67 ?_
  refine lv_istore (lv' := [(4, .int (t1 + t0)), (0, .ref h), (1, .int x1), (2, .int x2), (3, .int x3), (5, .int x5)]) hx hb dX11_fit_68 hl (by decide) rfl (fun ls hl => ?_)
  exact br_fit_70 (hk30) _ _ _ _ _ _ hB p e s0 m below meth c A E H locs ls hP hD hS (lv_sub hl [1, 2, 3, 4, 0, 5] rfl)
set_option maxHeartbeats 4000000 in
set_option maxRecDepth 100000 in
theorem br_fit_30 {l : Launch} {dC : Nat → ClassId} {dI : Nat → Nat → Nat} {cB cI cJ cZ cS : ClassId} {h : Nat} {a : Nat → Nat} {as : List Value} {r : Int32} {s' : RS} {k30 : RS → Int32 → Int32 → Int32 → Int32 → Int32 → Option (Int32 × RS)} (hk30 : ∀ (s : RS) (x1 : Int32) (x2 : Int32) (x3 : Int32) (x4 : Int32) (x5 : Int32), k30 s x1 x2 x3 x4 x5 = some (r, s') → BlkI l yX11_fit wsX11_fit ({ frames := 5, cells := 0, slots := 0, locals := 112 }) cX11_fit 6 (some .int) (dC, dI) (tysA cB cI cJ cZ cS) as 30 (mwS cB cI cJ cZ h a s) [(0, .ref h), (1, .int x1), (2, .int x2), (3, .int x3), (4, .int x4), (5, .int x5)] [] (fun x u => x = r ∧ u = (mwS cB cI cJ cZ h a s'))) (s : RS) (x1 : Int32) (x2 : Int32) (x3 : Int32) (x4 : Int32) (x5 : Int32) (hB : r_fit_30 k30 s x1 x2 x3 x4 x5 = some (r, s')) : BlkI l yX11_fit wsX11_fit ({ frames := 5, cells := 0, slots := 0, locals := 112 }) cX11_fit 6 (some .int) (dC, dI) (tysA cB cI cJ cZ cS) as 30 (mwS cB cI cJ cZ h a s) [(0, .ref h), (1, .int x1), (2, .int x2), (3, .int x3), (4, .int x4), (5, .int x5)] [] (fun x u => x = r ∧ u = (mwS cB cI cJ cZ h a s')) := by
  intro p e s0 m below meth c A E H locs ls hP hD hS hl
  obtain ⟨C, hr, hlocks, hA, hK, hN⟩ := id E
  obtain ⟨hx, hb, hml, hown, hts⟩ := id C
  unfold r_fit_30 at hB
  refine lv_iload hx hb dX11_fit_30 (lv_at hl 5 rfl) ?_
  refine lv_aload_n hx hb dX11_fit_32 rfl (lv_at hl 0 rfl) ?_
  obtain ⟨q_, s1, hc, hB⟩ := bindI_inv hB
  refine q_goiF (va_runV (As := []) (rest := [.int x5]) C (cr_guesses hc _) (cwV 0 hts gX11_fit_X11_guesses rfl rfl rfl (by decide +kernel) ⟨Nat.le_of_ble_eq_true rfl, Nat.le_of_ble_eq_true rfl⟩) (q_preV hK hP (ci := 11) (q0 := 0) rfl rfl rfl (q_preF hN hK hP hD)) rfl rfl hl.1 rfl (lv_room (Nat.le_of_ble_eq_true rfl)) dX11_fit_33 ⟨Nat.le_of_ble_eq_true rfl, Nat.le_of_ble_eq_true rfl⟩) hD hS hA (fun r2 w1 H locs hw hP hD hS => ?_)
  obtain ⟨hq_, hw⟩ := hw; subst hw; subst hq_
  refine lv_icmp_ge (tgt := 76) hx hb dX11_fit_36 (by decide) (fun c3 => ?_) (fun c3 => ?_)
  · have hB := if_p hB c3
    refine lv_iload hx hb dX11_fit_76 (lv_at hl 4 rfl) ?_
    exact q_iret C hr hlocks hK hP hD hS (Nat.le_of_ble_eq_true rfl) (Nat.le_of_ble_eq_true rfl) dX11_fit_78 (by cases hB; exact ⟨rfl, rfl⟩)
  · have hB := if_n hB c3
    refine lv_aload_n hx hb dX11_fit_39 rfl (lv_at hl 0 rfl) ?_
    refine lv_iload hx hb dX11_fit_40 (lv_at hl 5 rfl) ?_
    refine lv_iload_n hx hb dX11_fit_42 rfl (lv_at hl 1 rfl) ?_
    refine lv_iload_n hx hb dX11_fit_43 rfl (lv_at hl 2 rfl) ?_
    obtain ⟨q_, s4, hc, hB⟩ := bindI_inv hB
    refine q_goiF (va_runV (As := [.int x5, .int x1, .int x2]) (rest := []) C (cr_doesFit hc _) (cwV 3 hts gX11_fit_X11_doesFit rfl rfl rfl (by decide +kernel) ⟨Nat.le_of_ble_eq_true rfl, Nat.le_of_ble_eq_true rfl⟩) (q_preV hK hP (ci := 11) (q0 := 0) rfl rfl rfl (q_preF hN hK hP hD)) rfl rfl hl.1 rfl (lv_room (Nat.le_of_ble_eq_true rfl)) dX11_fit_44 ⟨Nat.le_of_ble_eq_true rfl, Nat.le_of_ble_eq_true rfl⟩) hD hS hA (fun r5 w1 H locs hw hP hD hS => ?_)
    obtain ⟨hq_, hw⟩ := hw; subst hw; subst hq_
    refine lv_if_eq (tgt := 70) hx hb dX11_fit_47 (by decide) (fun c6 => ?_) (fun c6 => ?_)
    · have hB := if_p hB c6
      exact br_fit_70 (hk30) _ _ _ _ _ _ hB p e s0 m below meth c A E H locs ls hP hD hS (lv_sub hl [0, 1, 2, 3, 4, 5] rfl)
    · have hB := if_n hB c6
      refine lv_iload hx hb dX11_fit_50 (lv_at hl 4 rfl) ?_
      refine lv_iload_n hx hb dX11_fit_52 rfl (lv_at hl 3 rfl) ?_
      refine lv_if_ne (tgt := 60) hx hb dX11_fit_53 (by decide) (fun c7 => ?_) (fun c7 => ?_)
      · have hB := if_n hB c7
        refine lv_aload_n hx hb dX11_fit_60 rfl (lv_at hl 0 rfl) ?_
        refine q_get (v := .ref (a 50)) C inX11_fit_X11 hK hP 0 rfl rfl 50 (by decide) rfl LX11_fit_113 rfl dX11_fit_61 ?_
        refine lv_iload hx hb dX11_fit_64 (lv_at hl 5 rfl) ?_
        obtain ⟨g8, hB⟩ := guard_inv hB
        refine q_iald (x := (s4.f 50 (Int32.toNatClampNeg x5))) C hK hP 32 1 rfl rfl (vpb_in g8) dX11_fit_66 rfl ?_
        exact br_fit_67 (hk30) _ _ _ _ _ _ _ hB p e s0 m below meth c A E H locs ls hP hD hS (lv_sub hl [0, 1, 2, 3, 5] rfl)
      · have hB := if_p hB c7
        refine lv_iconst (v := 1) hx hb dX11_fit_56 (by decide) ?_
        refine lv_goto (tgt := 67) hx hb dX11_fit_57 (by decide) ?_
        exact br_fit_67 (hk30) _ _ _ _ _ _ _ hB p e s0 m below meth c A E H locs ls hP hD hS (lv_sub hl [0, 1, 2, 3, 5] rfl)
theorem br_fit_30L {l : Launch} {dC : Nat → ClassId} {dI : Nat → Nat → Nat} {cB cI cJ cZ cS : ClassId} {h : Nat} {a : Nat → Nat} {as : List Value} {r : Int32} {s' : RS} : ∀ (n : Nat) (s : RS) (x1 : Int32) (x2 : Int32) (x3 : Int32) (x4 : Int32) (x5 : Int32), r_fit_30L n s x1 x2 x3 x4 x5 = some (r, s') → BlkI l yX11_fit wsX11_fit ({ frames := 5, cells := 0, slots := 0, locals := 112 }) cX11_fit 6 (some .int) (dC, dI) (tysA cB cI cJ cZ cS) as 30 (mwS cB cI cJ cZ h a s) [(0, .ref h), (1, .int x1), (2, .int x2), (3, .int x3), (4, .int x4), (5, .int x5)] [] (fun x u => x = r ∧ u = (mwS cB cI cJ cZ h a s')) := by
  intro n
  induction n with
  | zero => intro s x1 x2 x3 x4 x5 hB; exact none_ne hB
  | succ n ih => intro s x1 x2 x3 x4 x5 hB; exact br_fit_30 ih _ _ _ _ _ _ hB
set_option maxHeartbeats 4000000 in
set_option maxRecDepth 100000 in
theorem br_fit {l : Launch} {dC : Nat → ClassId} {dI : Nat → Nat → Nat} {cB cI cJ cZ cS : ClassId} {h : Nat} {a : Nat → Nat} {as : List Value} {r : Int32} {s' : RS} (s : RS) (x1 : Int32) (x2 : Int32) (x3 : Int32) (hB : r_fit s x1 x2 x3 = some (r, s')) : BlkI l yX11_fit wsX11_fit ({ frames := 5, cells := 0, slots := 0, locals := 112 }) cX11_fit 6 (some .int) (dC, dI) (tysA cB cI cJ cZ cS) as 0 (mwS cB cI cJ cZ h a s) [(0, .ref h), (1, .int x1), (2, .int x2), (3, .int x3)] [] (fun x u => x = r ∧ u = (mwS cB cI cJ cZ h a s')) := by
  intro p e s0 m below meth c A E H locs ls hP hD hS hl
  obtain ⟨C, hr, hlocks, hA, hK, hN⟩ := id E
  obtain ⟨hx, hb, hml, hown, hts⟩ := id C
  unfold r_fit at hB
  refine lv_aload_n hx hb dX11_fit_0 rfl (lv_at hl 0 rfl) ?_
  refine lv_iload_n hx hb dX11_fit_1 rfl (lv_at hl 1 rfl) ?_
  refine lv_iload_n hx hb dX11_fit_2 rfl (lv_at hl 2 rfl) ?_
  obtain ⟨q_, s1, hc, hB⟩ := bindI_inv hB
  refine q_goiF (va_runV (As := [.int x1, .int x2]) (rest := []) C (cr_isAsked hc _) (cwV 2 hts gX11_fit_X11_isAsked rfl rfl rfl (by decide +kernel) ⟨Nat.le_of_ble_eq_true rfl, Nat.le_of_ble_eq_true rfl⟩) (q_preV hK hP (ci := 11) (q0 := 0) rfl rfl rfl (q_preF hN hK hP hD)) rfl rfl hl.1 rfl (lv_room (Nat.le_of_ble_eq_true rfl)) dX11_fit_3 ⟨Nat.le_of_ble_eq_true rfl, Nat.le_of_ble_eq_true rfl⟩) hD hS hA (fun r2 w1 H locs hw hP hD hS => ?_)
  obtain ⟨hq_, hw⟩ := hw; subst hw; subst hq_
  refine lv_if_eq (tgt := 18) hx hb dX11_fit_6 (by decide) (fun c3 => ?_) (fun c3 => ?_)
  · have hB := if_p hB c3
    refine lv_iconst (v := (-1)) hx hb dX11_fit_18 (by decide) ?_
    exact q_iret C hr hlocks hK hP hD hS (Nat.le_of_ble_eq_true rfl) (Nat.le_of_ble_eq_true rfl) dX11_fit_19 (by cases hB; exact ⟨rfl, rfl⟩)
  · have hB := if_n hB c3
    refine lv_iload_n hx hb dX11_fit_9 rfl (lv_at hl 3 rfl) ?_
    refine lv_iconst (v := 0) hx hb dX11_fit_10 (by decide) ?_
    refine lv_iconst (v := 1) hx hb dX11_fit_11 (by decide) ?_
    obtain ⟨q_, hc, hB⟩ := bindP_inv hB
    refine q_goi0 (va_runS (As := [.int x3, .int 0, .int 1]) (rest := []) C (cr_in hc _) (va_cwS 3 hts gX11_fit_X11_in rfl rfl rfl (by decide +kernel) ⟨Nat.le_of_ble_eq_true rfl, Nat.le_of_ble_eq_true rfl⟩) (q_pre0 hN hK) rfl rfl hl.1 rfl (lv_room (Nat.le_of_ble_eq_true rfl)) dX11_fit_12 ⟨Nat.le_of_ble_eq_true rfl, Nat.le_of_ble_eq_true rfl⟩) hP hD hS hA (fun r4 w1 H locs hw hP hS => ?_)
    subst hw
    refine lv_if_ne (tgt := 20) hx hb dX11_fit_15 (by decide) (fun c5 => ?_) (fun c5 => ?_)
    · have hB := if_n hB c5
      refine lv_aload_n hx hb dX11_fit_20 rfl (lv_at hl 0 rfl) ?_
      obtain ⟨s6, hc, hB⟩ := bindP_inv hB
      refine q_govF (va_runV (As := []) (rest := []) C (cr_fillsChances hc _) (cwV 0 hts gX11_fit_X11_fillsChances rfl rfl rfl (by decide +kernel) ⟨Nat.le_of_ble_eq_true rfl, Nat.le_of_ble_eq_true rfl⟩) (q_preV hK hP (ci := 11) (q0 := 0) rfl rfl rfl (q_preF hN hK hP hD)) rfl rfl hl.1 rfl (lv_room (Nat.le_of_ble_eq_true rfl)) dX11_fit_21 ⟨Nat.le_of_ble_eq_true rfl, Nat.le_of_ble_eq_true rfl⟩) hD hS hA (fun w1 H locs hw hP hD hS => ?_)
      subst hw
      refine lv_iconst (v := 0) hx hb dX11_fit_24 (by decide) ?_
      refine lv_istore (lv' := [(4, .int 0), (0, .ref h), (1, .int x1), (2, .int x2), (3, .int x3)]) hx hb dX11_fit_25 hl (by decide) rfl (fun ls hl => ?_)
      refine lv_iconst (v := 0) hx hb dX11_fit_27 (by decide) ?_
      refine lv_istore (lv' := [(5, .int 0), (4, .int 0), (0, .ref h), (1, .int x1), (2, .int x2), (3, .int x3)]) hx hb dX11_fit_28 hl (by decide) rfl (fun ls hl => ?_)
      exact br_fit_30L fu _ _ _ _ _ _ hB p e s0 m below meth c A E H locs ls hP hD hS (lv_sub hl [2, 3, 4, 5, 1, 0] rfl)
    · have hB := if_p hB c5
      refine lv_iconst (v := (-1)) hx hb dX11_fit_18 (by decide) ?_
      exact q_iret C hr hlocks hK hP hD hS (Nat.le_of_ble_eq_true rfl) (Nat.le_of_ble_eq_true rfl) dX11_fit_19 (by cases hB; exact ⟨rfl, rfl⟩)
theorem cr_fit {l : Launch} {dC : Nat → ClassId} {dI : Nat → Nat → Nat} {cB cI cJ cZ cS : ClassId} {h : Nat} {a : Nat → Nat} {r : Int32} {s' : RS} {s : RS} {x1 : Int32} {x2 : Int32} {x3 : Int32} (hB : r_fit s x1 x2 x3 = some (r, s')) : CI l yX11_fit wsX11_fit ({ frames := 5, cells := 0, slots := 0, locals := 112 }) (dC, dI) (tysA cB cI cJ cZ cS) (mwS cB cI cJ cZ h a s) [.ref h, .int x1, .int x2, .int x3] (fun x u => x = r ∧ u = (mwS cB cI cJ cZ h a s')) :=
  CI_of (cc := cX11_fit) (maxL := 6) (ret := (some .int)) (by decide) rfl (Nat.le_of_ble_eq_true rfl) (br_fit _ _ _ _ hB)
set_option maxHeartbeats 4000000 in
set_option maxRecDepth 100000 in
theorem br_lie_82 {l : Launch} {dC : Nat → ClassId} {dI : Nat → Nat → Nat} {cB cI cJ cZ cS : ClassId} {h : Nat} {a : Nat → Nat} {as : List Value} {r : Int32} {s' : RS} {k24 : RS → Int32 → Int32 → Int32 → Int32 → Option (Int32 × RS)} (hk24 : ∀ (s : RS) (x1 : Int32) (x2 : Int32) (x3 : Int32) (x4 : Int32), k24 s x1 x2 x3 x4 = some (r, s') → BlkI l yX11_lie wsX11_lie ({ frames := 5, cells := 0, slots := 0, locals := 112 }) cX11_lie 6 (some .int) (dC, dI) (tysA cB cI cJ cZ cS) as 24 (mwS cB cI cJ cZ h a s) [(0, .ref h), (1, .int x1), (2, .int x2), (3, .int x3), (4, .int x4)] [] (fun x u => x = r ∧ u = (mwS cB cI cJ cZ h a s'))) (s : RS) (x1 : Int32) (x2 : Int32) (x3 : Int32) (x4 : Int32) (hB : r_lie_82 k24 s x1 x2 x3 x4 = some (r, s')) : BlkI l yX11_lie wsX11_lie ({ frames := 5, cells := 0, slots := 0, locals := 112 }) cX11_lie 6 (some .int) (dC, dI) (tysA cB cI cJ cZ cS) as 82 (mwS cB cI cJ cZ h a s) [(0, .ref h), (1, .int x1), (2, .int x2), (3, .int x3), (4, .int x4)] [] (fun x u => x = r ∧ u = (mwS cB cI cJ cZ h a s')) := by
  intro p e s0 m below meth c A E H locs ls hP hD hS hl
  obtain ⟨C, hr, hlocks, hA, hK, hN⟩ := id E
  obtain ⟨hx, hb, hml, hown, hts⟩ := id C
  unfold r_lie_82 at hB
  refine lv_iinc (v := (x4 + 1)) (lv' := [(4, .int (x4 + 1)), (0, .ref h), (1, .int x1), (2, .int x2), (3, .int x3)]) hx hb dX11_lie_82 hl (k := 4) rfl (rfl) (by decide) rfl (fun ls hl => ?_)
  refine lv_goto (tgt := 24) hx hb dX11_lie_85 (by decide) ?_
  exact hk24 _ _ _ _ _ hB p e s0 m below meth c A E H locs ls hP hD hS (lv_sub hl [1, 2, 3, 4, 0] rfl)
set_option maxHeartbeats 4000000 in
set_option maxRecDepth 100000 in
theorem br_lie_76 {l : Launch} {dC : Nat → ClassId} {dI : Nat → Nat → Nat} {cB cI cJ cZ cS : ClassId} {h : Nat} {a : Nat → Nat} {as : List Value} {r : Int32} {s' : RS} {k24 : RS → Int32 → Int32 → Int32 → Int32 → Option (Int32 × RS)} {k50 : RS → Int32 → Int32 → Int32 → Int32 → Int32 → Option (Int32 × RS)} (hk24 : ∀ (s : RS) (x1 : Int32) (x2 : Int32) (x3 : Int32) (x4 : Int32), k24 s x1 x2 x3 x4 = some (r, s') → BlkI l yX11_lie wsX11_lie ({ frames := 5, cells := 0, slots := 0, locals := 112 }) cX11_lie 6 (some .int) (dC, dI) (tysA cB cI cJ cZ cS) as 24 (mwS cB cI cJ cZ h a s) [(0, .ref h), (1, .int x1), (2, .int x2), (3, .int x3), (4, .int x4)] [] (fun x u => x = r ∧ u = (mwS cB cI cJ cZ h a s'))) (hk50 : ∀ (s : RS) (x1 : Int32) (x2 : Int32) (x3 : Int32) (x4 : Int32) (x5 : Int32), k50 s x1 x2 x3 x4 x5 = some (r, s') → BlkI l yX11_lie wsX11_lie ({ frames := 5, cells := 0, slots := 0, locals := 112 }) cX11_lie 6 (some .int) (dC, dI) (tysA cB cI cJ cZ cS) as 50 (mwS cB cI cJ cZ h a s) [(0, .ref h), (1, .int x1), (2, .int x2), (3, .int x3), (4, .int x4), (5, .int x5)] [] (fun x u => x = r ∧ u = (mwS cB cI cJ cZ h a s'))) (s : RS) (x1 : Int32) (x2 : Int32) (x3 : Int32) (x4 : Int32) (x5 : Int32) (hB : r_lie_76 k24 k50 s x1 x2 x3 x4 x5 = some (r, s')) : BlkI l yX11_lie wsX11_lie ({ frames := 5, cells := 0, slots := 0, locals := 112 }) cX11_lie 6 (some .int) (dC, dI) (tysA cB cI cJ cZ cS) as 76 (mwS cB cI cJ cZ h a s) [(0, .ref h), (1, .int x1), (2, .int x2), (3, .int x3), (4, .int x4), (5, .int x5)] [] (fun x u => x = r ∧ u = (mwS cB cI cJ cZ h a s')) := by
  intro p e s0 m below meth c A E H locs ls hP hD hS hl
  obtain ⟨C, hr, hlocks, hA, hK, hN⟩ := id E
  obtain ⟨hx, hb, hml, hown, hts⟩ := id C
  unfold r_lie_76 at hB
  refine lv_iinc (v := (x5 + 1)) (lv' := [(5, .int (x5 + 1)), (0, .ref h), (1, .int x1), (2, .int x2), (3, .int x3), (4, .int x4)]) hx hb dX11_lie_76 hl (k := 5) rfl (rfl) (by decide) rfl (fun ls hl => ?_)
  refine lv_goto (tgt := 50) hx hb dX11_lie_79 (by decide) ?_
  exact hk50 _ _ _ _ _ _ hB p e s0 m below meth c A E H locs ls hP hD hS (lv_sub hl [1, 2, 3, 4, 5, 0] rfl)
set_option maxHeartbeats 4000000 in
set_option maxRecDepth 100000 in
theorem br_lie_50 {l : Launch} {dC : Nat → ClassId} {dI : Nat → Nat → Nat} {cB cI cJ cZ cS : ClassId} {h : Nat} {a : Nat → Nat} {as : List Value} {r : Int32} {s' : RS} {k24 : RS → Int32 → Int32 → Int32 → Int32 → Option (Int32 × RS)} {k50 : RS → Int32 → Int32 → Int32 → Int32 → Int32 → Option (Int32 × RS)} (hk24 : ∀ (s : RS) (x1 : Int32) (x2 : Int32) (x3 : Int32) (x4 : Int32), k24 s x1 x2 x3 x4 = some (r, s') → BlkI l yX11_lie wsX11_lie ({ frames := 5, cells := 0, slots := 0, locals := 112 }) cX11_lie 6 (some .int) (dC, dI) (tysA cB cI cJ cZ cS) as 24 (mwS cB cI cJ cZ h a s) [(0, .ref h), (1, .int x1), (2, .int x2), (3, .int x3), (4, .int x4)] [] (fun x u => x = r ∧ u = (mwS cB cI cJ cZ h a s'))) (hk50 : ∀ (s : RS) (x1 : Int32) (x2 : Int32) (x3 : Int32) (x4 : Int32) (x5 : Int32), k50 s x1 x2 x3 x4 x5 = some (r, s') → BlkI l yX11_lie wsX11_lie ({ frames := 5, cells := 0, slots := 0, locals := 112 }) cX11_lie 6 (some .int) (dC, dI) (tysA cB cI cJ cZ cS) as 50 (mwS cB cI cJ cZ h a s) [(0, .ref h), (1, .int x1), (2, .int x2), (3, .int x3), (4, .int x4), (5, .int x5)] [] (fun x u => x = r ∧ u = (mwS cB cI cJ cZ h a s'))) (s : RS) (x1 : Int32) (x2 : Int32) (x3 : Int32) (x4 : Int32) (x5 : Int32) (hB : r_lie_50 k24 k50 s x1 x2 x3 x4 x5 = some (r, s')) : BlkI l yX11_lie wsX11_lie ({ frames := 5, cells := 0, slots := 0, locals := 112 }) cX11_lie 6 (some .int) (dC, dI) (tysA cB cI cJ cZ cS) as 50 (mwS cB cI cJ cZ h a s) [(0, .ref h), (1, .int x1), (2, .int x2), (3, .int x3), (4, .int x4), (5, .int x5)] [] (fun x u => x = r ∧ u = (mwS cB cI cJ cZ h a s')) := by
  intro p e s0 m below meth c A E H locs ls hP hD hS hl
  obtain ⟨C, hr, hlocks, hA, hK, hN⟩ := id E
  obtain ⟨hx, hb, hml, hown, hts⟩ := id C
  unfold r_lie_50 at hB
  refine lv_iload hx hb dX11_lie_50 (lv_at hl 5 rfl) ?_
  refine lv_iload_n hx hb dX11_lie_52 rfl (lv_at hl 1 rfl) ?_
  refine lv_icmp_ge (tgt := 82) hx hb dX11_lie_53 (by decide) (fun c1 => ?_) (fun c1 => ?_)
  · have hB := if_p hB c1
    exact br_lie_82 (hk24) _ _ _ _ _ hB p e s0 m below meth c A E H locs ls hP hD hS (lv_sub hl [0, 1, 2, 3, 4] rfl)
  · have hB := if_n hB c1
    refine lv_aload_n hx hb dX11_lie_56 rfl (lv_at hl 0 rfl) ?_
    refine lv_iload hx hb dX11_lie_57 (lv_at hl 4 rfl) ?_
    refine lv_iload hx hb dX11_lie_59 (lv_at hl 5 rfl) ?_
    obtain ⟨q_, s2, hc, hB⟩ := bindI_inv hB
    refine q_goiF (va_runV (As := [.int x4, .int x5]) (rest := []) C (cr_isSo hc _) (cwV 2 hts gX11_lie_X11_isSo rfl rfl rfl (by decide +kernel) ⟨Nat.le_of_ble_eq_true rfl, Nat.le_of_ble_eq_true rfl⟩) (q_preV hK hP (ci := 11) (q0 := 0) rfl rfl rfl (q_preF hN hK hP hD)) rfl rfl hl.1 rfl (lv_room (Nat.le_of_ble_eq_true rfl)) dX11_lie_61 ⟨Nat.le_of_ble_eq_true rfl, Nat.le_of_ble_eq_true rfl⟩) hD hS hA (fun r3 w1 H locs hw hP hD hS => ?_)
    obtain ⟨hq_, hw⟩ := hw; subst hw; subst hq_
    refine lv_if_eq (tgt := 76) hx hb dX11_lie_64 (by decide) (fun c4 => ?_) (fun c4 => ?_)
    · have hB := if_p hB c4
      exact br_lie_76 (hk24) (hk50) _ _ _ _ _ _ hB p e s0 m below meth c A E H locs ls hP hD hS (lv_sub hl [0, 1, 2, 3, 4, 5] rfl)
    · have hB := if_n hB c4
      refine lv_iload_n hx hb dX11_lie_67 rfl (lv_at hl 3 rfl) ?_
      refine lv_iconst (v := 1) hx hb dX11_lie_68 (by decide) ?_
      refine lv_iload hx hb dX11_lie_69 (lv_at hl 5 rfl) ?_
      refine lv_ishl hx hb dX11_lie_71 ?_
      refine lv_iconst (v := (-1)) hx hb dX11_lie_72 (by decide) ?_
      refine lv_ixor hx hb dX11_lie_73 ?_
      refine lv_iand hx hb dX11_lie_74 ?_
      refine lv_istore_n (lv' := [(3, .int (x3 &&& ((1 <<< (x5 &&& 31)) ^^^ (-1)))), (0, .ref h), (1, .int x1), (2, .int x2), (4, .int x4), (5, .int x5)]) hx hb dX11_lie_75 rfl hl (by decide) rfl (fun ls hl => ?_)
      exact br_lie_76 (hk24) (hk50) _ _ _ _ _ _ hB p e s0 m below meth c A E H locs ls hP hD hS (lv_sub hl [1, 2, 3, 0, 4, 5] rfl)
theorem br_lie_50L {l : Launch} {dC : Nat → ClassId} {dI : Nat → Nat → Nat} {cB cI cJ cZ cS : ClassId} {h : Nat} {a : Nat → Nat} {as : List Value} {r : Int32} {s' : RS} {k24 : RS → Int32 → Int32 → Int32 → Int32 → Option (Int32 × RS)} (hk24 : ∀ (s : RS) (x1 : Int32) (x2 : Int32) (x3 : Int32) (x4 : Int32), k24 s x1 x2 x3 x4 = some (r, s') → BlkI l yX11_lie wsX11_lie ({ frames := 5, cells := 0, slots := 0, locals := 112 }) cX11_lie 6 (some .int) (dC, dI) (tysA cB cI cJ cZ cS) as 24 (mwS cB cI cJ cZ h a s) [(0, .ref h), (1, .int x1), (2, .int x2), (3, .int x3), (4, .int x4)] [] (fun x u => x = r ∧ u = (mwS cB cI cJ cZ h a s'))) : ∀ (n : Nat) (s : RS) (x1 : Int32) (x2 : Int32) (x3 : Int32) (x4 : Int32) (x5 : Int32), r_lie_50L k24 n s x1 x2 x3 x4 x5 = some (r, s') → BlkI l yX11_lie wsX11_lie ({ frames := 5, cells := 0, slots := 0, locals := 112 }) cX11_lie 6 (some .int) (dC, dI) (tysA cB cI cJ cZ cS) as 50 (mwS cB cI cJ cZ h a s) [(0, .ref h), (1, .int x1), (2, .int x2), (3, .int x3), (4, .int x4), (5, .int x5)] [] (fun x u => x = r ∧ u = (mwS cB cI cJ cZ h a s')) := by
  intro n
  induction n with
  | zero => intro s x1 x2 x3 x4 x5 hB; exact none_ne hB
  | succ n ih => intro s x1 x2 x3 x4 x5 hB; exact br_lie_50 hk24 ih _ _ _ _ _ _ hB
set_option maxHeartbeats 4000000 in
set_option maxRecDepth 100000 in
theorem br_lie_24 {l : Launch} {dC : Nat → ClassId} {dI : Nat → Nat → Nat} {cB cI cJ cZ cS : ClassId} {h : Nat} {a : Nat → Nat} {as : List Value} {r : Int32} {s' : RS} {k24 : RS → Int32 → Int32 → Int32 → Int32 → Option (Int32 × RS)} (hk24 : ∀ (s : RS) (x1 : Int32) (x2 : Int32) (x3 : Int32) (x4 : Int32), k24 s x1 x2 x3 x4 = some (r, s') → BlkI l yX11_lie wsX11_lie ({ frames := 5, cells := 0, slots := 0, locals := 112 }) cX11_lie 6 (some .int) (dC, dI) (tysA cB cI cJ cZ cS) as 24 (mwS cB cI cJ cZ h a s) [(0, .ref h), (1, .int x1), (2, .int x2), (3, .int x3), (4, .int x4)] [] (fun x u => x = r ∧ u = (mwS cB cI cJ cZ h a s'))) (s : RS) (x1 : Int32) (x2 : Int32) (x3 : Int32) (x4 : Int32) (hB : r_lie_24 k24 s x1 x2 x3 x4 = some (r, s')) : BlkI l yX11_lie wsX11_lie ({ frames := 5, cells := 0, slots := 0, locals := 112 }) cX11_lie 6 (some .int) (dC, dI) (tysA cB cI cJ cZ cS) as 24 (mwS cB cI cJ cZ h a s) [(0, .ref h), (1, .int x1), (2, .int x2), (3, .int x3), (4, .int x4)] [] (fun x u => x = r ∧ u = (mwS cB cI cJ cZ h a s')) := by
  intro p e s0 m below meth c A E H locs ls hP hD hS hl
  obtain ⟨C, hr, hlocks, hA, hK, hN⟩ := id E
  obtain ⟨hx, hb, hml, hown, hts⟩ := id C
  unfold r_lie_24 at hB
  refine lv_iload hx hb dX11_lie_24 (lv_at hl 4 rfl) ?_
  refine lv_aload_n hx hb dX11_lie_26 rfl (lv_at hl 0 rfl) ?_
  obtain ⟨q_, s1, hc, hB⟩ := bindI_inv hB
  refine q_goiF (va_runV (As := []) (rest := [.int x4]) C (cr_guesses hc _) (cwV 0 hts gX11_lie_X11_guesses rfl rfl rfl (by decide +kernel) ⟨Nat.le_of_ble_eq_true rfl, Nat.le_of_ble_eq_true rfl⟩) (q_preV hK hP (ci := 11) (q0 := 0) rfl rfl rfl (q_preF hN hK hP hD)) rfl rfl hl.1 rfl (lv_room (Nat.le_of_ble_eq_true rfl)) dX11_lie_27 ⟨Nat.le_of_ble_eq_true rfl, Nat.le_of_ble_eq_true rfl⟩) hD hS hA (fun r2 w1 H locs hw hP hD hS => ?_)
  obtain ⟨hq_, hw⟩ := hw; subst hw; subst hq_
  refine lv_icmp_ge (tgt := 88) hx hb dX11_lie_30 (by decide) (fun c3 => ?_) (fun c3 => ?_)
  · have hB := if_p hB c3
    refine lv_iload_n hx hb dX11_lie_88 rfl (lv_at hl 3 rfl) ?_
    exact q_iret C hr hlocks hK hP hD hS (Nat.le_of_ble_eq_true rfl) (Nat.le_of_ble_eq_true rfl) dX11_lie_89 (by cases hB; exact ⟨rfl, rfl⟩)
  · have hB := if_n hB c3
    refine lv_aload_n hx hb dX11_lie_33 rfl (lv_at hl 0 rfl) ?_
    refine lv_iload hx hb dX11_lie_34 (lv_at hl 4 rfl) ?_
    refine lv_iload_n hx hb dX11_lie_36 rfl (lv_at hl 1 rfl) ?_
    refine lv_iload_n hx hb dX11_lie_37 rfl (lv_at hl 2 rfl) ?_
    obtain ⟨q_, s4, hc, hB⟩ := bindI_inv hB
    refine q_goiF (va_runV (As := [.int x4, .int x1, .int x2]) (rest := []) C (cr_doesFit hc _) (cwV 3 hts gX11_lie_X11_doesFit rfl rfl rfl (by decide +kernel) ⟨Nat.le_of_ble_eq_true rfl, Nat.le_of_ble_eq_true rfl⟩) (q_preV hK hP (ci := 11) (q0 := 0) rfl rfl rfl (q_preF hN hK hP hD)) rfl rfl hl.1 rfl (lv_room (Nat.le_of_ble_eq_true rfl)) dX11_lie_38 ⟨Nat.le_of_ble_eq_true rfl, Nat.le_of_ble_eq_true rfl⟩) hD hS hA (fun r5 w1 H locs hw hP hD hS => ?_)
    obtain ⟨hq_, hw⟩ := hw; subst hw; subst hq_
    refine lv_if_ne (tgt := 47) hx hb dX11_lie_41 (by decide) (fun c6 => ?_) (fun c6 => ?_)
    · have hB := if_n hB c6
      refine lv_iconst (v := 0) hx hb dX11_lie_47 (by decide) ?_
      refine lv_istore (lv' := [(5, .int 0), (0, .ref h), (1, .int x1), (2, .int x2), (3, .int x3), (4, .int x4)]) hx hb dX11_lie_48 hl (by decide) rfl (fun ls hl => ?_)
      exact br_lie_50L (hk24) fu _ _ _ _ _ _ hB p e s0 m below meth c A E H locs ls hP hD hS (lv_sub hl [1, 2, 3, 4, 5, 0] rfl)
    · have hB := if_p hB c6
      refine lv_goto (tgt := 82) hx hb dX11_lie_44 (by decide) ?_
      exact br_lie_82 (hk24) _ _ _ _ _ hB p e s0 m below meth c A E H locs ls hP hD hS (lv_sub hl [0, 1, 2, 3, 4] rfl)
theorem br_lie_24L {l : Launch} {dC : Nat → ClassId} {dI : Nat → Nat → Nat} {cB cI cJ cZ cS : ClassId} {h : Nat} {a : Nat → Nat} {as : List Value} {r : Int32} {s' : RS} : ∀ (n : Nat) (s : RS) (x1 : Int32) (x2 : Int32) (x3 : Int32) (x4 : Int32), r_lie_24L n s x1 x2 x3 x4 = some (r, s') → BlkI l yX11_lie wsX11_lie ({ frames := 5, cells := 0, slots := 0, locals := 112 }) cX11_lie 6 (some .int) (dC, dI) (tysA cB cI cJ cZ cS) as 24 (mwS cB cI cJ cZ h a s) [(0, .ref h), (1, .int x1), (2, .int x2), (3, .int x3), (4, .int x4)] [] (fun x u => x = r ∧ u = (mwS cB cI cJ cZ h a s')) := by
  intro n
  induction n with
  | zero => intro s x1 x2 x3 x4 hB; exact none_ne hB
  | succ n ih => intro s x1 x2 x3 x4 hB; exact br_lie_24 ih _ _ _ _ _ hB
set_option maxHeartbeats 4000000 in
set_option maxRecDepth 100000 in
theorem br_lie {l : Launch} {dC : Nat → ClassId} {dI : Nat → Nat → Nat} {cB cI cJ cZ cS : ClassId} {h : Nat} {a : Nat → Nat} {as : List Value} {r : Int32} {s' : RS} (s : RS) (x1 : Int32) (x2 : Int32) (hB : r_lie s x1 x2 = some (r, s')) : BlkI l yX11_lie wsX11_lie ({ frames := 5, cells := 0, slots := 0, locals := 112 }) cX11_lie 6 (some .int) (dC, dI) (tysA cB cI cJ cZ cS) as 0 (mwS cB cI cJ cZ h a s) [(0, .ref h), (1, .int x1), (2, .int x2)] [] (fun x u => x = r ∧ u = (mwS cB cI cJ cZ h a s')) := by
  intro p e s0 m below meth c A E H locs ls hP hD hS hl
  obtain ⟨C, hr, hlocks, hA, hK, hN⟩ := id E
  obtain ⟨hx, hb, hml, hown, hts⟩ := id C
  unfold r_lie at hB
  refine lv_aload_n hx hb dX11_lie_0 rfl (lv_at hl 0 rfl) ?_
  refine lv_iload_n hx hb dX11_lie_1 rfl (lv_at hl 1 rfl) ?_
  refine lv_iload_n hx hb dX11_lie_2 rfl (lv_at hl 2 rfl) ?_
  obtain ⟨q_, s1, hc, hB⟩ := bindI_inv hB
  refine q_goiF (va_runV (As := [.int x1, .int x2]) (rest := []) C (cr_isAsked hc _) (cwV 2 hts gX11_lie_X11_isAsked rfl rfl rfl (by decide +kernel) ⟨Nat.le_of_ble_eq_true rfl, Nat.le_of_ble_eq_true rfl⟩) (q_preV hK hP (ci := 11) (q0 := 0) rfl rfl rfl (q_preF hN hK hP hD)) rfl rfl hl.1 rfl (lv_room (Nat.le_of_ble_eq_true rfl)) dX11_lie_3 ⟨Nat.le_of_ble_eq_true rfl, Nat.le_of_ble_eq_true rfl⟩) hD hS hA (fun r2 w1 H locs hw hP hD hS => ?_)
  obtain ⟨hq_, hw⟩ := hw; subst hw; subst hq_
  refine lv_if_ne (tgt := 11) hx hb dX11_lie_6 (by decide) (fun c3 => ?_) (fun c3 => ?_)
  · have hB := if_n hB c3
    refine lv_aload_n hx hb dX11_lie_11 rfl (lv_at hl 0 rfl) ?_
    obtain ⟨s4, hc, hB⟩ := bindP_inv hB
    refine q_govF (va_runV (As := []) (rest := []) C (cr_fillsChances hc _) (cwV 0 hts gX11_lie_X11_fillsChances rfl rfl rfl (by decide +kernel) ⟨Nat.le_of_ble_eq_true rfl, Nat.le_of_ble_eq_true rfl⟩) (q_preV hK hP (ci := 11) (q0 := 0) rfl rfl rfl (q_preF hN hK hP hD)) rfl rfl hl.1 rfl (lv_room (Nat.le_of_ble_eq_true rfl)) dX11_lie_12 ⟨Nat.le_of_ble_eq_true rfl, Nat.le_of_ble_eq_true rfl⟩) hD hS hA (fun w1 H locs hw hP hD hS => ?_)
    subst hw
    refine lv_iconst (v := 1) hx hb dX11_lie_15 (by decide) ?_
    refine lv_iload_n hx hb dX11_lie_16 rfl (lv_at hl 1 rfl) ?_
    refine lv_ishl hx hb dX11_lie_17 ?_
    refine lv_iconst (v := 1) hx hb dX11_lie_18 (by decide) ?_
    refine lv_isub hx hb dX11_lie_19 ?_
    refine lv_istore_n (lv' := [(3, .int ((1 <<< (x1 &&& 31)) - 1)), (0, .ref h), (1, .int x1), (2, .int x2)]) hx hb dX11_lie_20 rfl hl (by decide) rfl (fun ls hl => ?_)
    refine lv_iconst (v := 0) hx hb dX11_lie_21 (by decide) ?_
    refine lv_istore (lv' := [(4, .int 0), (3, .int ((1 <<< (x1 &&& 31)) - 1)), (0, .ref h), (1, .int x1), (2, .int x2)]) hx hb dX11_lie_22 hl (by decide) rfl (fun ls hl => ?_)
    exact br_lie_24L fu _ _ _ _ _ hB p e s0 m below meth c A E H locs ls hP hD hS (lv_sub hl [2, 3, 4, 1, 0] rfl)
  · have hB := if_p hB c3
    refine lv_iconst (v := (-1)) hx hb dX11_lie_9 (by decide) ?_
    exact q_iret C hr hlocks hK hP hD hS (Nat.le_of_ble_eq_true rfl) (Nat.le_of_ble_eq_true rfl) dX11_lie_10 (by cases hB; exact ⟨rfl, rfl⟩)
theorem cr_lie {l : Launch} {dC : Nat → ClassId} {dI : Nat → Nat → Nat} {cB cI cJ cZ cS : ClassId} {h : Nat} {a : Nat → Nat} {r : Int32} {s' : RS} {s : RS} {x1 : Int32} {x2 : Int32} (hB : r_lie s x1 x2 = some (r, s')) : CI l yX11_lie wsX11_lie ({ frames := 5, cells := 0, slots := 0, locals := 112 }) (dC, dI) (tysA cB cI cJ cZ cS) (mwS cB cI cJ cZ h a s) [.ref h, .int x1, .int x2] (fun x u => x = r ∧ u = (mwS cB cI cJ cZ h a s')) :=
  CI_of (cc := cX11_lie) (maxL := 6) (ret := (some .int)) (by decide) rfl (Nat.le_of_ble_eq_true rfl) (br_lie _ _ _ hB)
theorem LX11_worstAt_125 : Cond.fieldLink RX11 125 "GuessFerryModel" "fitBy" "[I" ∈ wsX11_worstAt := (List.mem_cons_of_mem _ (List.mem_append_left _ (List.mem_of_getElem? (i := 0) rfl)))
theorem inX11_worstAt_X11 : ∀ w ∈ u_ws RX11 TX11 58, w ∈ wsX11_worstAt := fun _ h => List.mem_cons_of_mem _ (List.mem_append_right _ h)
set_option maxHeartbeats 4000000 in
set_option maxRecDepth 100000 in
theorem br_worstAt_37 {l : Launch} {dC : Nat → ClassId} {dI : Nat → Nat → Nat} {cB cI cJ cZ cS : ClassId} {h : Nat} {a : Nat → Nat} {as : List Value} {r : Int32} {s' : RS} {k4 : RS → Int32 → Int32 → Int32 → Option (Int32 × RS)} (hk4 : ∀ (s : RS) (x1 : Int32) (x2 : Int32) (x3 : Int32), k4 s x1 x2 x3 = some (r, s') → BlkI l yX11_worstAt wsX11_worstAt ({ frames := 0, cells := 0, slots := 0, locals := 0 }) cX11_worstAt 4 (some .int) (dC, dI) (tysA cB cI cJ cZ cS) as 4 (mwS cB cI cJ cZ h a s) [(0, .ref h), (1, .int x1), (2, .int x2), (3, .int x3)] [] (fun x u => x = r ∧ u = (mwS cB cI cJ cZ h a s'))) (s : RS) (x1 : Int32) (x2 : Int32) (x3 : Int32) (hB : r_worstAt_37 k4 s x1 x2 x3 = some (r, s')) : BlkI l yX11_worstAt wsX11_worstAt ({ frames := 0, cells := 0, slots := 0, locals := 0 }) cX11_worstAt 4 (some .int) (dC, dI) (tysA cB cI cJ cZ cS) as 37 (mwS cB cI cJ cZ h a s) [(0, .ref h), (1, .int x1), (2, .int x2), (3, .int x3)] [] (fun x u => x = r ∧ u = (mwS cB cI cJ cZ h a s')) := by
  intro p e s0 m below meth c A E H locs ls hP hD hS hl
  obtain ⟨C, hr, hlocks, hA, hK, hN⟩ := id E
  obtain ⟨hx, hb, hml, hown, hts⟩ := id C
  unfold r_worstAt_37 at hB
  refine lv_iinc (v := (x3 + 1)) (lv' := [(3, .int (x3 + 1)), (0, .ref h), (1, .int x1), (2, .int x2)]) hx hb dX11_worstAt_37 hl (k := 3) rfl (rfl) (by decide) rfl (fun ls hl => ?_)
  refine lv_goto (tgt := 4) hx hb dX11_worstAt_40 (by decide) ?_
  exact hk4 _ _ _ _ hB p e s0 m below meth c A E H locs ls hP hD hS (lv_sub hl [1, 2, 3, 0] rfl)
set_option maxHeartbeats 4000000 in
set_option maxRecDepth 100000 in
theorem br_worstAt_4 {l : Launch} {dC : Nat → ClassId} {dI : Nat → Nat → Nat} {cB cI cJ cZ cS : ClassId} {h : Nat} {a : Nat → Nat} {as : List Value} {r : Int32} {s' : RS} {k4 : RS → Int32 → Int32 → Int32 → Option (Int32 × RS)} (hk4 : ∀ (s : RS) (x1 : Int32) (x2 : Int32) (x3 : Int32), k4 s x1 x2 x3 = some (r, s') → BlkI l yX11_worstAt wsX11_worstAt ({ frames := 0, cells := 0, slots := 0, locals := 0 }) cX11_worstAt 4 (some .int) (dC, dI) (tysA cB cI cJ cZ cS) as 4 (mwS cB cI cJ cZ h a s) [(0, .ref h), (1, .int x1), (2, .int x2), (3, .int x3)] [] (fun x u => x = r ∧ u = (mwS cB cI cJ cZ h a s'))) (s : RS) (x1 : Int32) (x2 : Int32) (x3 : Int32) (hB : r_worstAt_4 k4 s x1 x2 x3 = some (r, s')) : BlkI l yX11_worstAt wsX11_worstAt ({ frames := 0, cells := 0, slots := 0, locals := 0 }) cX11_worstAt 4 (some .int) (dC, dI) (tysA cB cI cJ cZ cS) as 4 (mwS cB cI cJ cZ h a s) [(0, .ref h), (1, .int x1), (2, .int x2), (3, .int x3)] [] (fun x u => x = r ∧ u = (mwS cB cI cJ cZ h a s')) := by
  intro p e s0 m below meth c A E H locs ls hP hD hS hl
  obtain ⟨C, hr, hlocks, hA, hK, hN⟩ := id E
  obtain ⟨hx, hb, hml, hown, hts⟩ := id C
  unfold r_worstAt_4 at hB
  refine lv_iload_n hx hb dX11_worstAt_4 rfl (lv_at hl 3 rfl) ?_
  refine lv_bipush (v := 6) hx hb dX11_worstAt_5 (by decide) ?_
  refine lv_icmp_ge (tgt := 43) hx hb dX11_worstAt_7 (by decide) (fun c1 => ?_) (fun c1 => ?_)
  · have hB := if_p hB c1
    refine lv_iload_n hx hb dX11_worstAt_43 rfl (lv_at hl 2 rfl) ?_
    exact q_iret C hr hlocks hK hP hD hS (Nat.le_of_ble_eq_true rfl) (Nat.le_of_ble_eq_true rfl) dX11_worstAt_44 (by cases hB; exact ⟨rfl, rfl⟩)
  · have hB := if_n hB c1
    refine lv_aload_n hx hb dX11_worstAt_10 rfl (lv_at hl 0 rfl) ?_
    refine q_get (v := .ref (a 55)) C inX11_worstAt_X11 hK hP 0 rfl rfl 55 (by decide) rfl LX11_worstAt_125 rfl dX11_worstAt_11 ?_
    refine lv_bipush (v := 6) hx hb dX11_worstAt_14 (by decide) ?_
    refine lv_iload_n hx hb dX11_worstAt_16 rfl (lv_at hl 1 rfl) ?_
    refine lv_imul hx hb dX11_worstAt_17 ?_
    refine lv_iload_n hx hb dX11_worstAt_18 rfl (lv_at hl 3 rfl) ?_
    refine lv_iadd hx hb dX11_worstAt_19 ?_
    obtain ⟨g2, hB⟩ := guard_inv hB
    refine q_iald (x := (s.f 55 (Int32.toNatClampNeg ((6 * x1) + x3)))) C hK hP 36 1 rfl rfl (vpb_in g2) dX11_worstAt_20 rfl ?_
    refine lv_iload_n hx hb dX11_worstAt_21 rfl (lv_at hl 2 rfl) ?_
    refine lv_icmp_le (tgt := 37) hx hb dX11_worstAt_22 (by decide) (fun c3 => ?_) (fun c3 => ?_)
    · have hB := if_p hB c3
      exact br_worstAt_37 (hk4) _ _ _ _ hB p e s0 m below meth c A E H locs ls hP hD hS (lv_sub hl [0, 1, 2, 3] rfl)
    · have hB := if_n hB c3
      refine lv_aload_n hx hb dX11_worstAt_25 rfl (lv_at hl 0 rfl) ?_
      refine q_get (v := .ref (a 55)) C inX11_worstAt_X11 hK hP 0 rfl rfl 55 (by decide) rfl LX11_worstAt_125 rfl dX11_worstAt_26 ?_
      refine lv_bipush (v := 6) hx hb dX11_worstAt_29 (by decide) ?_
      refine lv_iload_n hx hb dX11_worstAt_31 rfl (lv_at hl 1 rfl) ?_
      refine lv_imul hx hb dX11_worstAt_32 ?_
      refine lv_iload_n hx hb dX11_worstAt_33 rfl (lv_at hl 3 rfl) ?_
      refine lv_iadd hx hb dX11_worstAt_34 ?_
      obtain ⟨g4, hB⟩ := guard_inv hB
      refine q_iald (x := (s.f 55 (Int32.toNatClampNeg ((6 * x1) + x3)))) C hK hP 36 1 rfl rfl (vpb_in g4) dX11_worstAt_35 rfl ?_
      refine lv_istore_n (lv' := [(2, .int (s.f 55 (Int32.toNatClampNeg ((6 * x1) + x3)))), (0, .ref h), (1, .int x1), (3, .int x3)]) hx hb dX11_worstAt_36 rfl hl (by decide) rfl (fun ls hl => ?_)
      exact br_worstAt_37 (hk4) _ _ _ _ hB p e s0 m below meth c A E H locs ls hP hD hS (lv_sub hl [1, 2, 0, 3] rfl)
theorem br_worstAt_4L {l : Launch} {dC : Nat → ClassId} {dI : Nat → Nat → Nat} {cB cI cJ cZ cS : ClassId} {h : Nat} {a : Nat → Nat} {as : List Value} {r : Int32} {s' : RS} : ∀ (n : Nat) (s : RS) (x1 : Int32) (x2 : Int32) (x3 : Int32), r_worstAt_4L n s x1 x2 x3 = some (r, s') → BlkI l yX11_worstAt wsX11_worstAt ({ frames := 0, cells := 0, slots := 0, locals := 0 }) cX11_worstAt 4 (some .int) (dC, dI) (tysA cB cI cJ cZ cS) as 4 (mwS cB cI cJ cZ h a s) [(0, .ref h), (1, .int x1), (2, .int x2), (3, .int x3)] [] (fun x u => x = r ∧ u = (mwS cB cI cJ cZ h a s')) := by
  intro n
  induction n with
  | zero => intro s x1 x2 x3 hB; exact none_ne hB
  | succ n ih => intro s x1 x2 x3 hB; exact br_worstAt_4 ih _ _ _ _ hB
set_option maxHeartbeats 4000000 in
set_option maxRecDepth 100000 in
theorem br_worstAt {l : Launch} {dC : Nat → ClassId} {dI : Nat → Nat → Nat} {cB cI cJ cZ cS : ClassId} {h : Nat} {a : Nat → Nat} {as : List Value} {r : Int32} {s' : RS} (s : RS) (x1 : Int32) (hB : r_worstAt s x1 = some (r, s')) : BlkI l yX11_worstAt wsX11_worstAt ({ frames := 0, cells := 0, slots := 0, locals := 0 }) cX11_worstAt 4 (some .int) (dC, dI) (tysA cB cI cJ cZ cS) as 0 (mwS cB cI cJ cZ h a s) [(0, .ref h), (1, .int x1)] [] (fun x u => x = r ∧ u = (mwS cB cI cJ cZ h a s')) := by
  intro p e s0 m below meth c A E H locs ls hP hD hS hl
  obtain ⟨C, hr, hlocks, hA, hK, hN⟩ := id E
  obtain ⟨hx, hb, hml, hown, hts⟩ := id C
  unfold r_worstAt at hB
  refine lv_iconst (v := 0) hx hb dX11_worstAt_0 (by decide) ?_
  refine lv_istore_n (lv' := [(2, .int 0), (0, .ref h), (1, .int x1)]) hx hb dX11_worstAt_1 rfl hl (by decide) rfl (fun ls hl => ?_)
  refine lv_iconst (v := 0) hx hb dX11_worstAt_2 (by decide) ?_
  refine lv_istore_n (lv' := [(3, .int 0), (2, .int 0), (0, .ref h), (1, .int x1)]) hx hb dX11_worstAt_3 rfl hl (by decide) rfl (fun ls hl => ?_)
  exact br_worstAt_4L fu _ _ _ _ hB p e s0 m below meth c A E H locs ls hP hD hS (lv_sub hl [2, 3, 1, 0] rfl)
theorem cr_worstAt {l : Launch} {dC : Nat → ClassId} {dI : Nat → Nat → Nat} {cB cI cJ cZ cS : ClassId} {h : Nat} {a : Nat → Nat} {r : Int32} {s' : RS} {s : RS} {x1 : Int32} (hB : r_worstAt s x1 = some (r, s')) : CI l yX11_worstAt wsX11_worstAt ({ frames := 0, cells := 0, slots := 0, locals := 0 }) (dC, dI) (tysA cB cI cJ cZ cS) (mwS cB cI cJ cZ h a s) [.ref h, .int x1] (fun x u => x = r ∧ u = (mwS cB cI cJ cZ h a s')) :=
  CI_of (cc := cX11_worstAt) (maxL := 4) (ret := (some .int)) (by decide) rfl (Nat.le_of_ble_eq_true rfl) (br_worstAt _ _ hB)
theorem LX11_ask_125 : Cond.fieldLink RX11 125 "GuessFerryModel" "fitBy" "[I" ∈ wsX11_ask := (List.mem_cons_of_mem _ (List.mem_append_left _ (List.mem_append_left _ (List.mem_of_getElem? (i := 0) rfl))))
theorem LX11_ask_215 : Cond.fieldLink RX11 215 "GuessFerryModel" "live" "I" ∈ wsX11_ask := (List.mem_cons_of_mem _ (List.mem_append_left _ (List.mem_append_left _ (List.mem_of_getElem? (i := 2) rfl))))
theorem LX11_ask_40 : Cond.fieldLink RX11 40 "GuessFerryModel" "waves" "[I" ∈ wsX11_ask := (List.mem_cons_of_mem _ (List.mem_append_left _ (List.mem_append_left _ (List.mem_of_getElem? (i := 1) rfl))))
theorem inX11_ask_X11 : ∀ w ∈ u_ws RX11 TX11 58, w ∈ wsX11_ask := fun w h => (List.mem_cons_of_mem _ (List.mem_append_right _ h))
set_option maxHeartbeats 4000000 in
set_option maxRecDepth 100000 in
theorem br_ask_168 {l : Launch} {dC : Nat → ClassId} {dI : Nat → Nat → Nat} {cB cI cJ cZ cS : ClassId} {h : Nat} {a : Nat → Nat} {as : List Value} {r : Int32} {s' : RS} {k126 : RS → Int32 → Int32 → Int32 → Option (Int32 × RS)} (hk126 : ∀ (s : RS) (x3 : Int32) (x4 : Int32) (x5 : Int32), k126 s x3 x4 x5 = some (r, s') → BlkI l yX11_ask wsX11_ask ({ frames := 5, cells := 0, slots := 0, locals := 112 }) cX11_ask 6 (some .int) (dC, dI) (tysA cB cI cJ cZ cS) as 126 (mwS cB cI cJ cZ h a s) [(0, .ref h), (3, .int x3), (4, .int x4), (5, .int x5)] [] (fun x u => x = r ∧ u = (mwS cB cI cJ cZ h a s'))) (s : RS) (x3 : Int32) (x4 : Int32) (x5 : Int32) (hB : r_ask_168 k126 s x3 x4 x5 = some (r, s')) : BlkI l yX11_ask wsX11_ask ({ frames := 5, cells := 0, slots := 0, locals := 112 }) cX11_ask 6 (some .int) (dC, dI) (tysA cB cI cJ cZ cS) as 168 (mwS cB cI cJ cZ h a s) [(0, .ref h), (3, .int x3), (4, .int x4), (5, .int x5)] [] (fun x u => x = r ∧ u = (mwS cB cI cJ cZ h a s')) := by
  intro p e s0 m below meth c A E H locs ls hP hD hS hl
  obtain ⟨C, hr, hlocks, hA, hK, hN⟩ := id E
  obtain ⟨hx, hb, hml, hown, hts⟩ := id C
  unfold r_ask_168 at hB
  refine lv_iinc (v := (x5 + 1)) (lv' := [(5, .int (x5 + 1)), (0, .ref h), (3, .int x3), (4, .int x4)]) hx hb dX11_ask_168 hl (k := 3) rfl (rfl) (by decide) rfl (fun ls hl => ?_)
  refine lv_goto (tgt := 126) hx hb dX11_ask_171 (by decide) ?_
  exact hk126 _ _ _ _ hB p e s0 m below meth c A E H locs ls hP hD hS (lv_sub hl [1, 2, 3, 0] rfl)
set_option maxHeartbeats 4000000 in
set_option maxRecDepth 100000 in
theorem br_ask_164 {l : Launch} {dC : Nat → ClassId} {dI : Nat → Nat → Nat} {cB cI cJ cZ cS : ClassId} {h : Nat} {a : Nat → Nat} {as : List Value} {r : Int32} {s' : RS} {k126 : RS → Int32 → Int32 → Int32 → Option (Int32 × RS)} (hk126 : ∀ (s : RS) (x3 : Int32) (x4 : Int32) (x5 : Int32), k126 s x3 x4 x5 = some (r, s') → BlkI l yX11_ask wsX11_ask ({ frames := 5, cells := 0, slots := 0, locals := 112 }) cX11_ask 6 (some .int) (dC, dI) (tysA cB cI cJ cZ cS) as 126 (mwS cB cI cJ cZ h a s) [(0, .ref h), (3, .int x3), (4, .int x4), (5, .int x5)] [] (fun x u => x = r ∧ u = (mwS cB cI cJ cZ h a s'))) (s : RS) (x3 : Int32) (x5 : Int32) (hB : r_ask_164 k126 s x3 x5 = some (r, s')) : BlkI l yX11_ask wsX11_ask ({ frames := 5, cells := 0, slots := 0, locals := 112 }) cX11_ask 6 (some .int) (dC, dI) (tysA cB cI cJ cZ cS) as 164 (mwS cB cI cJ cZ h a s) [(0, .ref h), (3, .int x3), (5, .int x5)] [] (fun x u => x = r ∧ u = (mwS cB cI cJ cZ h a s')) := by
  intro p e s0 m below meth c A E H locs ls hP hD hS hl
  obtain ⟨C, hr, hlocks, hA, hK, hN⟩ := id E
  obtain ⟨hx, hb, hml, hown, hts⟩ := id C
  unfold r_ask_164 at hB
  refine lv_iload hx hb dX11_ask_164 (lv_at hl 2 rfl) ?_
  refine lv_istore (lv' := [(4, .int x5), (0, .ref h), (3, .int x3), (5, .int x5)]) hx hb dX11_ask_166 hl (by decide) rfl (fun ls hl => ?_)
  exact br_ask_168 (hk126) _ _ _ _ hB p e s0 m below meth c A E H locs ls hP hD hS (lv_sub hl [1, 2, 0, 3] rfl)
set_option maxHeartbeats 4000000 in
set_option maxRecDepth 100000 in
theorem br_ask_126 {l : Launch} {dC : Nat → ClassId} {dI : Nat → Nat → Nat} {cB cI cJ cZ cS : ClassId} {h : Nat} {a : Nat → Nat} {as : List Value} {r : Int32} {s' : RS} {k126 : RS → Int32 → Int32 → Int32 → Option (Int32 × RS)} (hk126 : ∀ (s : RS) (x3 : Int32) (x4 : Int32) (x5 : Int32), k126 s x3 x4 x5 = some (r, s') → BlkI l yX11_ask wsX11_ask ({ frames := 5, cells := 0, slots := 0, locals := 112 }) cX11_ask 6 (some .int) (dC, dI) (tysA cB cI cJ cZ cS) as 126 (mwS cB cI cJ cZ h a s) [(0, .ref h), (3, .int x3), (4, .int x4), (5, .int x5)] [] (fun x u => x = r ∧ u = (mwS cB cI cJ cZ h a s'))) (s : RS) (x3 : Int32) (x4 : Int32) (x5 : Int32) (hB : r_ask_126 k126 s x3 x4 x5 = some (r, s')) : BlkI l yX11_ask wsX11_ask ({ frames := 5, cells := 0, slots := 0, locals := 112 }) cX11_ask 6 (some .int) (dC, dI) (tysA cB cI cJ cZ cS) as 126 (mwS cB cI cJ cZ h a s) [(0, .ref h), (3, .int x3), (4, .int x4), (5, .int x5)] [] (fun x u => x = r ∧ u = (mwS cB cI cJ cZ h a s')) := by
  intro p e s0 m below meth c A E H locs ls hP hD hS hl
  obtain ⟨C, hr, hlocks, hA, hK, hN⟩ := id E
  obtain ⟨hx, hb, hml, hown, hts⟩ := id C
  unfold r_ask_126 at hB
  refine lv_iload hx hb dX11_ask_126 (lv_at hl 3 rfl) ?_
  refine lv_aload_n hx hb dX11_ask_128 rfl (lv_at hl 0 rfl) ?_
  refine q_get (v := .ref (a 20)) C inX11_ask_X11 hK hP 0 rfl rfl 20 (by decide) rfl LX11_ask_40 rfl dX11_ask_129 ?_
  refine lv_aload_n hx hb dX11_ask_132 rfl (lv_at hl 0 rfl) ?_
  refine q_get (v := .int (s.v 18)) C inX11_ask_X11 hK hP 0 rfl rfl 18 (by decide) rfl LX11_ask_215 rfl dX11_ask_133 ?_
  obtain ⟨g1, hB⟩ := guard_inv hB
  refine q_iald (x := (s.f 20 (Int32.toNatClampNeg (s.v 18)))) C hK hP 8 1 rfl rfl (vpb_in g1) dX11_ask_136 rfl ?_
  refine lv_icmp_ge (tgt := 174) hx hb dX11_ask_137 (by decide) (fun c2 => ?_) (fun c2 => ?_)
  · have hB := if_p hB c2
    refine lv_iload hx hb dX11_ask_174 (lv_at hl 2 rfl) ?_
    exact q_iret C hr hlocks hK hP hD hS (Nat.le_of_ble_eq_true rfl) (Nat.le_of_ble_eq_true rfl) dX11_ask_176 (by cases hB; exact ⟨rfl, rfl⟩)
  · have hB := if_n hB c2
    refine lv_iload_n hx hb dX11_ask_140 rfl (lv_at hl 1 rfl) ?_
    refine lv_if_le (tgt := 174) hx hb dX11_ask_141 (by decide) (fun c3 => ?_) (fun c3 => ?_)
    · have hB := if_p hB c3
      refine lv_iload hx hb dX11_ask_174 (lv_at hl 2 rfl) ?_
      exact q_iret C hr hlocks hK hP hD hS (Nat.le_of_ble_eq_true rfl) (Nat.le_of_ble_eq_true rfl) dX11_ask_176 (by cases hB; exact ⟨rfl, rfl⟩)
    · have hB := if_n hB c3
      refine lv_iload hx hb dX11_ask_144 (lv_at hl 2 rfl) ?_
      refine lv_if_lt (tgt := 164) hx hb dX11_ask_146 (by decide) (fun c4 => ?_) (fun c4 => ?_)
      · have hB := if_p hB c4
        exact br_ask_164 (hk126) _ _ _ hB p e s0 m below meth c A E H locs ls hP hD hS (lv_sub hl [0, 1, 3] rfl)
      · have hB := if_n hB c4
        refine lv_aload_n hx hb dX11_ask_149 rfl (lv_at hl 0 rfl) ?_
        refine lv_iload hx hb dX11_ask_150 (lv_at hl 3 rfl) ?_
        obtain ⟨q_, s5, hc, hB⟩ := bindI_inv hB
        refine q_goiF (va_runV (As := [.int x5]) (rest := []) C (cr_worstAt hc _) (cwV 1 hts gX11_ask_X11_worstAt rfl rfl rfl (by decide +kernel) ⟨Nat.le_of_ble_eq_true rfl, Nat.le_of_ble_eq_true rfl⟩) (q_preV hK hP (ci := 11) (q0 := 0) rfl rfl rfl (q_preF hN hK hP hD)) rfl rfl hl.1 rfl (lv_room (Nat.le_of_ble_eq_true rfl)) dX11_ask_152 ⟨Nat.le_of_ble_eq_true rfl, Nat.le_of_ble_eq_true rfl⟩) hD hS hA (fun r6 w1 H locs hw hP hD hS => ?_)
        obtain ⟨hq_, hw⟩ := hw; subst hw; subst hq_
        refine lv_aload_n hx hb dX11_ask_155 rfl (lv_at hl 0 rfl) ?_
        refine lv_iload hx hb dX11_ask_156 (lv_at hl 2 rfl) ?_
        obtain ⟨q_, s7, hc, hB⟩ := bindI_inv hB
        refine q_goiF (va_runV (As := [.int x4]) (rest := [.int r6]) C (cr_worstAt hc _) (cwV 1 hts gX11_ask_X11_worstAt rfl rfl rfl (by decide +kernel) ⟨Nat.le_of_ble_eq_true rfl, Nat.le_of_ble_eq_true rfl⟩) (q_preV hK hP (ci := 11) (q0 := 0) rfl rfl rfl (q_preF hN hK hP hD)) rfl rfl hl.1 rfl (lv_room (Nat.le_of_ble_eq_true rfl)) dX11_ask_158 ⟨Nat.le_of_ble_eq_true rfl, Nat.le_of_ble_eq_true rfl⟩) hD hS hA (fun r8 w1 H locs hw hP hD hS => ?_)
        obtain ⟨hq_, hw⟩ := hw; subst hw; subst hq_
        refine lv_icmp_ge (tgt := 168) hx hb dX11_ask_161 (by decide) (fun c9 => ?_) (fun c9 => ?_)
        · have hB := if_p hB c9
          exact br_ask_168 (hk126) _ _ _ _ hB p e s0 m below meth c A E H locs ls hP hD hS (lv_sub hl [0, 1, 2, 3] rfl)
        · have hB := if_n hB c9
          exact br_ask_164 (hk126) _ _ _ hB p e s0 m below meth c A E H locs ls hP hD hS (lv_sub hl [0, 1, 3] rfl)
theorem br_ask_126L {l : Launch} {dC : Nat → ClassId} {dI : Nat → Nat → Nat} {cB cI cJ cZ cS : ClassId} {h : Nat} {a : Nat → Nat} {as : List Value} {r : Int32} {s' : RS} : ∀ (n : Nat) (s : RS) (x3 : Int32) (x4 : Int32) (x5 : Int32), r_ask_126L n s x3 x4 x5 = some (r, s') → BlkI l yX11_ask wsX11_ask ({ frames := 5, cells := 0, slots := 0, locals := 112 }) cX11_ask 6 (some .int) (dC, dI) (tysA cB cI cJ cZ cS) as 126 (mwS cB cI cJ cZ h a s) [(0, .ref h), (3, .int x3), (4, .int x4), (5, .int x5)] [] (fun x u => x = r ∧ u = (mwS cB cI cJ cZ h a s')) := by
  intro n
  induction n with
  | zero => intro s x3 x4 x5 hB; exact none_ne hB
  | succ n ih => intro s x3 x4 x5 hB; exact br_ask_126 ih _ _ _ _ hB
set_option maxHeartbeats 4000000 in
set_option maxRecDepth 100000 in
theorem br_ask_113 {l : Launch} {dC : Nat → ClassId} {dI : Nat → Nat → Nat} {cB cI cJ cZ cS : ClassId} {h : Nat} {a : Nat → Nat} {as : List Value} {r : Int32} {s' : RS} {k41 : RS → Int32 → Int32 → Int32 → Int32 → Option (Int32 × RS)} (hk41 : ∀ (s : RS) (x1 : Int32) (x2 : Int32) (x3 : Int32) (x4 : Int32), k41 s x1 x2 x3 x4 = some (r, s') → BlkI l yX11_ask wsX11_ask ({ frames := 5, cells := 0, slots := 0, locals := 112 }) cX11_ask 6 (some .int) (dC, dI) (tysA cB cI cJ cZ cS) as 41 (mwS cB cI cJ cZ h a s) [(0, .ref h), (1, .int x1), (2, .int x2), (3, .int x3), (4, .int x4)] [] (fun x u => x = r ∧ u = (mwS cB cI cJ cZ h a s'))) (s : RS) (x1 : Int32) (x2 : Int32) (x3 : Int32) (x4 : Int32) (hB : r_ask_113 k41 s x1 x2 x3 x4 = some (r, s')) : BlkI l yX11_ask wsX11_ask ({ frames := 5, cells := 0, slots := 0, locals := 112 }) cX11_ask 6 (some .int) (dC, dI) (tysA cB cI cJ cZ cS) as 113 (mwS cB cI cJ cZ h a s) [(0, .ref h), (1, .int x1), (2, .int x2), (3, .int x3), (4, .int x4)] [] (fun x u => x = r ∧ u = (mwS cB cI cJ cZ h a s')) := by
  intro p e s0 m below meth c A E H locs ls hP hD hS hl
  obtain ⟨C, hr, hlocks, hA, hK, hN⟩ := id E
  obtain ⟨hx, hb, hml, hown, hts⟩ := id C
  unfold r_ask_113 at hB
  refine lv_iinc (v := (x4 + 1)) (lv' := [(4, .int (x4 + 1)), (0, .ref h), (1, .int x1), (2, .int x2), (3, .int x3)]) hx hb dX11_ask_113 hl (k := 4) rfl (rfl) (by decide) rfl (fun ls hl => ?_)
  refine lv_goto (tgt := 41) hx hb dX11_ask_116 (by decide) ?_
  exact hk41 _ _ _ _ _ hB p e s0 m below meth c A E H locs ls hP hD hS (lv_sub hl [1, 2, 3, 4, 0] rfl)
set_option maxHeartbeats 4000000 in
set_option maxRecDepth 100000 in
theorem br_ask_70 {l : Launch} {dC : Nat → ClassId} {dI : Nat → Nat → Nat} {cB cI cJ cZ cS : ClassId} {h : Nat} {a : Nat → Nat} {as : List Value} {r : Int32} {s' : RS} {k41 : RS → Int32 → Int32 → Int32 → Int32 → Option (Int32 × RS)} {k70 : RS → Int32 → Int32 → Int32 → Int32 → Int32 → Option (Int32 × RS)} (hk41 : ∀ (s : RS) (x1 : Int32) (x2 : Int32) (x3 : Int32) (x4 : Int32), k41 s x1 x2 x3 x4 = some (r, s') → BlkI l yX11_ask wsX11_ask ({ frames := 5, cells := 0, slots := 0, locals := 112 }) cX11_ask 6 (some .int) (dC, dI) (tysA cB cI cJ cZ cS) as 41 (mwS cB cI cJ cZ h a s) [(0, .ref h), (1, .int x1), (2, .int x2), (3, .int x3), (4, .int x4)] [] (fun x u => x = r ∧ u = (mwS cB cI cJ cZ h a s'))) (hk70 : ∀ (s : RS) (x1 : Int32) (x2 : Int32) (x3 : Int32) (x4 : Int32) (x5 : Int32), k70 s x1 x2 x3 x4 x5 = some (r, s') → BlkI l yX11_ask wsX11_ask ({ frames := 5, cells := 0, slots := 0, locals := 112 }) cX11_ask 6 (some .int) (dC, dI) (tysA cB cI cJ cZ cS) as 70 (mwS cB cI cJ cZ h a s) [(0, .ref h), (1, .int x1), (2, .int x2), (3, .int x3), (4, .int x4), (5, .int x5)] [] (fun x u => x = r ∧ u = (mwS cB cI cJ cZ h a s'))) (s : RS) (x1 : Int32) (x2 : Int32) (x3 : Int32) (x4 : Int32) (x5 : Int32) (hB : r_ask_70 k41 k70 s x1 x2 x3 x4 x5 = some (r, s')) : BlkI l yX11_ask wsX11_ask ({ frames := 5, cells := 0, slots := 0, locals := 112 }) cX11_ask 6 (some .int) (dC, dI) (tysA cB cI cJ cZ cS) as 70 (mwS cB cI cJ cZ h a s) [(0, .ref h), (1, .int x1), (2, .int x2), (3, .int x3), (4, .int x4), (5, .int x5)] [] (fun x u => x = r ∧ u = (mwS cB cI cJ cZ h a s')) := by
  intro p e s0 m below meth c A E H locs ls hP hD hS hl
  obtain ⟨C, hr, hlocks, hA, hK, hN⟩ := id E
  obtain ⟨hx, hb, hml, hown, hts⟩ := id C
  unfold r_ask_70 at hB
  refine lv_iload hx hb dX11_ask_70 (lv_at hl 5 rfl) ?_
  refine lv_aload_n hx hb dX11_ask_72 rfl (lv_at hl 0 rfl) ?_
  refine q_get (v := .ref (a 20)) C inX11_ask_X11 hK hP 0 rfl rfl 20 (by decide) rfl LX11_ask_40 rfl dX11_ask_73 ?_
  refine lv_aload_n hx hb dX11_ask_76 rfl (lv_at hl 0 rfl) ?_
  refine q_get (v := .int (s.v 18)) C inX11_ask_X11 hK hP 0 rfl rfl 18 (by decide) rfl LX11_ask_215 rfl dX11_ask_77 ?_
  obtain ⟨g1, hB⟩ := guard_inv hB
  refine q_iald (x := (s.f 20 (Int32.toNatClampNeg (s.v 18)))) C hK hP 8 1 rfl rfl (vpb_in g1) dX11_ask_80 rfl ?_
  refine lv_icmp_ge (tgt := 113) hx hb dX11_ask_81 (by decide) (fun c2 => ?_) (fun c2 => ?_)
  · have hB := if_p hB c2
    exact br_ask_113 (hk41) _ _ _ _ _ hB p e s0 m below meth c A E H locs ls hP hD hS (lv_sub hl [0, 1, 2, 3, 4] rfl)
  · have hB := if_n hB c2
    refine lv_aload_n hx hb dX11_ask_84 rfl (lv_at hl 0 rfl) ?_
    refine q_get (v := .ref (a 55)) C inX11_ask_X11 hK hP 0 rfl rfl 55 (by decide) rfl LX11_ask_125 rfl dX11_ask_85 ?_
    refine lv_bipush (v := 6) hx hb dX11_ask_88 (by decide) ?_
    refine lv_iload hx hb dX11_ask_90 (lv_at hl 5 rfl) ?_
    refine lv_imul hx hb dX11_ask_92 ?_
    refine lv_aload_n hx hb dX11_ask_93 rfl (lv_at hl 0 rfl) ?_
    refine lv_iload hx hb dX11_ask_94 (lv_at hl 4 rfl) ?_
    refine lv_iload hx hb dX11_ask_96 (lv_at hl 5 rfl) ?_
    obtain ⟨q_, s3, hc, hB⟩ := bindI_inv hB
    refine q_goiF (va_runV (As := [.int x4, .int x5]) (rest := [.int (6 * x5), .ref (a 55)]) C (cr_thingAt hc _) (cwV 2 hts gX11_ask_X11_thingAt rfl rfl rfl (by decide +kernel) ⟨Nat.le_of_ble_eq_true rfl, Nat.le_of_ble_eq_true rfl⟩) (q_preV hK hP (ci := 11) (q0 := 0) rfl rfl rfl (q_preF hN hK hP hD)) rfl rfl hl.1 rfl (lv_room (Nat.le_of_ble_eq_true rfl)) dX11_ask_98 ⟨Nat.le_of_ble_eq_true rfl, Nat.le_of_ble_eq_true rfl⟩) hD hS hA (fun r4 w1 H locs hw hP hD hS => ?_)
    obtain ⟨hq_, hw⟩ := hw; subst hw; subst hq_
    refine lv_iadd hx hb dX11_ask_101 ?_
    refine lv_dup2_11 hx hb dX11_ask_102 rfl rfl ?_
    obtain ⟨g5, hB⟩ := guard_inv hB
    refine q_iald (x := (s3.f 55 (Int32.toNatClampNeg ((6 * x5) + r4)))) C hK hP 36 1 rfl rfl (vpb_in g5) dX11_ask_103 rfl ?_
    refine lv_iconst (v := 1) hx hb dX11_ask_104 (by decide) ?_
    refine lv_iadd hx hb dX11_ask_105 ?_
    obtain ⟨g6, hB⟩ := guard_inv hB
    obtain ⟨s7, hs8, hB⟩ := letS_inv hB
    refine q_iast (f2 := (upd (s3.f 55) (Int32.toNatClampNeg ((6 * x5) + r4)) ((s3.f 55 (Int32.toNatClampNeg ((6 * x5) + r4))) + 1))) (w2 := (mwS cB cI cJ cZ h a s7)) C hK hP hD hS 36 1 rfl rfl (vpb_in g6) dX11_ask_106 rfl (mwS_f55 hs8) (fun H locs hP hD hS => ?_)
    refine lv_iinc (v := (x5 + 1)) (lv' := [(5, .int (x5 + 1)), (0, .ref h), (1, .int x1), (2, .int x2), (3, .int x3), (4, .int x4)]) hx hb dX11_ask_107 hl (k := 5) rfl (rfl) (by decide) rfl (fun ls hl => ?_)
    refine lv_goto (tgt := 70) hx hb dX11_ask_110 (by decide) ?_
    exact hk70 _ _ _ _ _ _ hB p e s0 m below meth c A E H locs ls hP hD hS (lv_sub hl [1, 2, 3, 4, 5, 0] rfl)
theorem br_ask_70L {l : Launch} {dC : Nat → ClassId} {dI : Nat → Nat → Nat} {cB cI cJ cZ cS : ClassId} {h : Nat} {a : Nat → Nat} {as : List Value} {r : Int32} {s' : RS} {k41 : RS → Int32 → Int32 → Int32 → Int32 → Option (Int32 × RS)} (hk41 : ∀ (s : RS) (x1 : Int32) (x2 : Int32) (x3 : Int32) (x4 : Int32), k41 s x1 x2 x3 x4 = some (r, s') → BlkI l yX11_ask wsX11_ask ({ frames := 5, cells := 0, slots := 0, locals := 112 }) cX11_ask 6 (some .int) (dC, dI) (tysA cB cI cJ cZ cS) as 41 (mwS cB cI cJ cZ h a s) [(0, .ref h), (1, .int x1), (2, .int x2), (3, .int x3), (4, .int x4)] [] (fun x u => x = r ∧ u = (mwS cB cI cJ cZ h a s'))) : ∀ (n : Nat) (s : RS) (x1 : Int32) (x2 : Int32) (x3 : Int32) (x4 : Int32) (x5 : Int32), r_ask_70L k41 n s x1 x2 x3 x4 x5 = some (r, s') → BlkI l yX11_ask wsX11_ask ({ frames := 5, cells := 0, slots := 0, locals := 112 }) cX11_ask 6 (some .int) (dC, dI) (tysA cB cI cJ cZ cS) as 70 (mwS cB cI cJ cZ h a s) [(0, .ref h), (1, .int x1), (2, .int x2), (3, .int x3), (4, .int x4), (5, .int x5)] [] (fun x u => x = r ∧ u = (mwS cB cI cJ cZ h a s')) := by
  intro n
  induction n with
  | zero => intro s x1 x2 x3 x4 x5 hB; exact none_ne hB
  | succ n ih => intro s x1 x2 x3 x4 x5 hB; exact br_ask_70 hk41 ih _ _ _ _ _ _ hB
set_option maxHeartbeats 4000000 in
set_option maxRecDepth 100000 in
theorem br_ask_41 {l : Launch} {dC : Nat → ClassId} {dI : Nat → Nat → Nat} {cB cI cJ cZ cS : ClassId} {h : Nat} {a : Nat → Nat} {as : List Value} {r : Int32} {s' : RS} {k41 : RS → Int32 → Int32 → Int32 → Int32 → Option (Int32 × RS)} (hk41 : ∀ (s : RS) (x1 : Int32) (x2 : Int32) (x3 : Int32) (x4 : Int32), k41 s x1 x2 x3 x4 = some (r, s') → BlkI l yX11_ask wsX11_ask ({ frames := 5, cells := 0, slots := 0, locals := 112 }) cX11_ask 6 (some .int) (dC, dI) (tysA cB cI cJ cZ cS) as 41 (mwS cB cI cJ cZ h a s) [(0, .ref h), (1, .int x1), (2, .int x2), (3, .int x3), (4, .int x4)] [] (fun x u => x = r ∧ u = (mwS cB cI cJ cZ h a s'))) (s : RS) (x1 : Int32) (x2 : Int32) (x3 : Int32) (x4 : Int32) (hB : r_ask_41 k41 s x1 x2 x3 x4 = some (r, s')) : BlkI l yX11_ask wsX11_ask ({ frames := 5, cells := 0, slots := 0, locals := 112 }) cX11_ask 6 (some .int) (dC, dI) (tysA cB cI cJ cZ cS) as 41 (mwS cB cI cJ cZ h a s) [(0, .ref h), (1, .int x1), (2, .int x2), (3, .int x3), (4, .int x4)] [] (fun x u => x = r ∧ u = (mwS cB cI cJ cZ h a s')) := by
  intro p e s0 m below meth c A E H locs ls hP hD hS hl
  obtain ⟨C, hr, hlocks, hA, hK, hN⟩ := id E
  obtain ⟨hx, hb, hml, hown, hts⟩ := id C
  unfold r_ask_41 at hB
  refine lv_iload hx hb dX11_ask_41 (lv_at hl 4 rfl) ?_
  refine lv_aload_n hx hb dX11_ask_43 rfl (lv_at hl 0 rfl) ?_
  obtain ⟨q_, s1, hc, hB⟩ := bindI_inv hB
  refine q_goiF (va_runV (As := []) (rest := [.int x4]) C (cr_guesses hc _) (cwV 0 hts gX11_ask_X11_guesses rfl rfl rfl (by decide +kernel) ⟨Nat.le_of_ble_eq_true rfl, Nat.le_of_ble_eq_true rfl⟩) (q_preV hK hP (ci := 11) (q0 := 0) rfl rfl rfl (q_preF hN hK hP hD)) rfl rfl hl.1 rfl (lv_room (Nat.le_of_ble_eq_true rfl)) dX11_ask_44 ⟨Nat.le_of_ble_eq_true rfl, Nat.le_of_ble_eq_true rfl⟩) hD hS hA (fun r2 w1 H locs hw hP hD hS => ?_)
  obtain ⟨hq_, hw⟩ := hw; subst hw; subst hq_
  refine lv_icmp_ge (tgt := 119) hx hb dX11_ask_47 (by decide) (fun c3 => ?_) (fun c3 => ?_)
  · have hB := if_p hB c3
    refine lv_bipush (v := (-2)) hx hb dX11_ask_119 (by decide) ?_
    refine lv_istore (lv' := [(4, .int (-2)), (0, .ref h), (1, .int x1), (2, .int x2), (3, .int x3)]) hx hb dX11_ask_121 hl (by decide) rfl (fun ls hl => ?_)
    refine lv_iconst (v := 0) hx hb dX11_ask_123 (by decide) ?_
    refine lv_istore (lv' := [(5, .int 0), (4, .int (-2)), (0, .ref h), (1, .int x1), (2, .int x2), (3, .int x3)]) hx hb dX11_ask_124 hl (by decide) rfl (fun ls hl => ?_)
    exact br_ask_126L fu _ _ _ _ hB p e s0 m below meth c A E H locs ls hP hD hS (lv_sub hl [2, 5, 1, 0] rfl)
  · have hB := if_n hB c3
    refine lv_aload_n hx hb dX11_ask_50 rfl (lv_at hl 0 rfl) ?_
    refine lv_iload hx hb dX11_ask_51 (lv_at hl 4 rfl) ?_
    refine lv_iload_n hx hb dX11_ask_53 rfl (lv_at hl 1 rfl) ?_
    refine lv_iload_n hx hb dX11_ask_54 rfl (lv_at hl 2 rfl) ?_
    obtain ⟨q_, s4, hc, hB⟩ := bindI_inv hB
    refine q_goiF (va_runV (As := [.int x4, .int x1, .int x2]) (rest := []) C (cr_doesFit hc _) (cwV 3 hts gX11_ask_X11_doesFit rfl rfl rfl (by decide +kernel) ⟨Nat.le_of_ble_eq_true rfl, Nat.le_of_ble_eq_true rfl⟩) (q_preV hK hP (ci := 11) (q0 := 0) rfl rfl rfl (q_preF hN hK hP hD)) rfl rfl hl.1 rfl (lv_room (Nat.le_of_ble_eq_true rfl)) dX11_ask_55 ⟨Nat.le_of_ble_eq_true rfl, Nat.le_of_ble_eq_true rfl⟩) hD hS hA (fun r5 w1 H locs hw hP hD hS => ?_)
    obtain ⟨hq_, hw⟩ := hw; subst hw; subst hq_
    refine lv_if_ne (tgt := 64) hx hb dX11_ask_58 (by decide) (fun c6 => ?_) (fun c6 => ?_)
    · have hB := if_n hB c6
      refine lv_iinc (v := (x3 + 1)) (lv' := [(3, .int (x3 + 1)), (0, .ref h), (1, .int x1), (2, .int x2), (4, .int x4)]) hx hb dX11_ask_64 hl (k := 3) rfl (rfl) (by decide) rfl (fun ls hl => ?_)
      refine lv_iconst (v := 0) hx hb dX11_ask_67 (by decide) ?_
      refine lv_istore (lv' := [(5, .int 0), (3, .int (x3 + 1)), (0, .ref h), (1, .int x1), (2, .int x2), (4, .int x4)]) hx hb dX11_ask_68 hl (by decide) rfl (fun ls hl => ?_)
      exact br_ask_70L (hk41) fu _ _ _ _ _ _ hB p e s0 m below meth c A E H locs ls hP hD hS (lv_sub hl [2, 3, 4, 1, 5, 0] rfl)
    · have hB := if_p hB c6
      refine lv_goto (tgt := 113) hx hb dX11_ask_61 (by decide) ?_
      exact br_ask_113 (hk41) _ _ _ _ _ hB p e s0 m below meth c A E H locs ls hP hD hS (lv_sub hl [0, 1, 2, 3, 4] rfl)
theorem br_ask_41L {l : Launch} {dC : Nat → ClassId} {dI : Nat → Nat → Nat} {cB cI cJ cZ cS : ClassId} {h : Nat} {a : Nat → Nat} {as : List Value} {r : Int32} {s' : RS} : ∀ (n : Nat) (s : RS) (x1 : Int32) (x2 : Int32) (x3 : Int32) (x4 : Int32), r_ask_41L n s x1 x2 x3 x4 = some (r, s') → BlkI l yX11_ask wsX11_ask ({ frames := 5, cells := 0, slots := 0, locals := 112 }) cX11_ask 6 (some .int) (dC, dI) (tysA cB cI cJ cZ cS) as 41 (mwS cB cI cJ cZ h a s) [(0, .ref h), (1, .int x1), (2, .int x2), (3, .int x3), (4, .int x4)] [] (fun x u => x = r ∧ u = (mwS cB cI cJ cZ h a s')) := by
  intro n
  induction n with
  | zero => intro s x1 x2 x3 x4 hB; exact none_ne hB
  | succ n ih => intro s x1 x2 x3 x4 hB; exact br_ask_41 ih _ _ _ _ _ hB
set_option maxHeartbeats 4000000 in
set_option maxRecDepth 100000 in
theorem br_ask_17 {l : Launch} {dC : Nat → ClassId} {dI : Nat → Nat → Nat} {cB cI cJ cZ cS : ClassId} {h : Nat} {a : Nat → Nat} {as : List Value} {r : Int32} {s' : RS} {k17 : RS → Int32 → Int32 → Int32 → Option (Int32 × RS)} (hk17 : ∀ (s : RS) (x1 : Int32) (x2 : Int32) (x3 : Int32), k17 s x1 x2 x3 = some (r, s') → BlkI l yX11_ask wsX11_ask ({ frames := 5, cells := 0, slots := 0, locals := 112 }) cX11_ask 6 (some .int) (dC, dI) (tysA cB cI cJ cZ cS) as 17 (mwS cB cI cJ cZ h a s) [(0, .ref h), (1, .int x1), (2, .int x2), (3, .int x3)] [] (fun x u => x = r ∧ u = (mwS cB cI cJ cZ h a s'))) (s : RS) (x1 : Int32) (x2 : Int32) (x3 : Int32) (hB : r_ask_17 k17 s x1 x2 x3 = some (r, s')) : BlkI l yX11_ask wsX11_ask ({ frames := 5, cells := 0, slots := 0, locals := 112 }) cX11_ask 6 (some .int) (dC, dI) (tysA cB cI cJ cZ cS) as 17 (mwS cB cI cJ cZ h a s) [(0, .ref h), (1, .int x1), (2, .int x2), (3, .int x3)] [] (fun x u => x = r ∧ u = (mwS cB cI cJ cZ h a s')) := by
  intro p e s0 m below meth c A E H locs ls hP hD hS hl
  obtain ⟨C, hr, hlocks, hA, hK, hN⟩ := id E
  obtain ⟨hx, hb, hml, hown, hts⟩ := id C
  unfold r_ask_17 at hB
  refine lv_iload_n hx hb dX11_ask_17 rfl (lv_at hl 3 rfl) ?_
  refine lv_bipush (v := 30) hx hb dX11_ask_18 (by decide) ?_
  refine lv_icmp_ge (tgt := 36) hx hb dX11_ask_20 (by decide) (fun c1 => ?_) (fun c1 => ?_)
  · have hB := if_p hB c1
    refine lv_iconst (v := 0) hx hb dX11_ask_36 (by decide) ?_
    refine lv_istore_n (lv' := [(3, .int 0), (0, .ref h), (1, .int x1), (2, .int x2)]) hx hb dX11_ask_37 rfl hl (by decide) rfl (fun ls hl => ?_)
    refine lv_iconst (v := 0) hx hb dX11_ask_38 (by decide) ?_
    refine lv_istore (lv' := [(4, .int 0), (3, .int 0), (0, .ref h), (1, .int x1), (2, .int x2)]) hx hb dX11_ask_39 hl (by decide) rfl (fun ls hl => ?_)
    exact br_ask_41L fu _ _ _ _ _ hB p e s0 m below meth c A E H locs ls hP hD hS (lv_sub hl [2, 3, 4, 1, 0] rfl)
  · have hB := if_n hB c1
    refine lv_aload_n hx hb dX11_ask_23 rfl (lv_at hl 0 rfl) ?_
    refine q_get (v := .ref (a 55)) C inX11_ask_X11 hK hP 0 rfl rfl 55 (by decide) rfl LX11_ask_125 rfl dX11_ask_24 ?_
    refine lv_iload_n hx hb dX11_ask_27 rfl (lv_at hl 3 rfl) ?_
    refine lv_iconst (v := 0) hx hb dX11_ask_28 (by decide) ?_
    obtain ⟨g2, hB⟩ := guard_inv hB
    obtain ⟨s3, hs4, hB⟩ := letS_inv hB
    refine q_iast (f2 := (upd (s.f 55) (Int32.toNatClampNeg x3) 0)) (w2 := (mwS cB cI cJ cZ h a s3)) C hK hP hD hS 36 1 rfl rfl (vpb_in g2) dX11_ask_29 rfl (mwS_f55 hs4) (fun H locs hP hD hS => ?_)
    refine lv_iinc (v := (x3 + 1)) (lv' := [(3, .int (x3 + 1)), (0, .ref h), (1, .int x1), (2, .int x2)]) hx hb dX11_ask_30 hl (k := 3) rfl (rfl) (by decide) rfl (fun ls hl => ?_)
    refine lv_goto (tgt := 17) hx hb dX11_ask_33 (by decide) ?_
    exact hk17 _ _ _ _ hB p e s0 m below meth c A E H locs ls hP hD hS (lv_sub hl [1, 2, 3, 0] rfl)
theorem br_ask_17L {l : Launch} {dC : Nat → ClassId} {dI : Nat → Nat → Nat} {cB cI cJ cZ cS : ClassId} {h : Nat} {a : Nat → Nat} {as : List Value} {r : Int32} {s' : RS} : ∀ (n : Nat) (s : RS) (x1 : Int32) (x2 : Int32) (x3 : Int32), r_ask_17L n s x1 x2 x3 = some (r, s') → BlkI l yX11_ask wsX11_ask ({ frames := 5, cells := 0, slots := 0, locals := 112 }) cX11_ask 6 (some .int) (dC, dI) (tysA cB cI cJ cZ cS) as 17 (mwS cB cI cJ cZ h a s) [(0, .ref h), (1, .int x1), (2, .int x2), (3, .int x3)] [] (fun x u => x = r ∧ u = (mwS cB cI cJ cZ h a s')) := by
  intro n
  induction n with
  | zero => intro s x1 x2 x3 hB; exact none_ne hB
  | succ n ih => intro s x1 x2 x3 hB; exact br_ask_17 ih _ _ _ _ hB
set_option maxHeartbeats 4000000 in
set_option maxRecDepth 100000 in
theorem br_ask {l : Launch} {dC : Nat → ClassId} {dI : Nat → Nat → Nat} {cB cI cJ cZ cS : ClassId} {h : Nat} {a : Nat → Nat} {as : List Value} {r : Int32} {s' : RS} (s : RS) (x1 : Int32) (x2 : Int32) (hB : r_ask s x1 x2 = some (r, s')) : BlkI l yX11_ask wsX11_ask ({ frames := 5, cells := 0, slots := 0, locals := 112 }) cX11_ask 6 (some .int) (dC, dI) (tysA cB cI cJ cZ cS) as 0 (mwS cB cI cJ cZ h a s) [(0, .ref h), (1, .int x1), (2, .int x2)] [] (fun x u => x = r ∧ u = (mwS cB cI cJ cZ h a s')) := by
  intro p e s0 m below meth c A E H locs ls hP hD hS hl
  obtain ⟨C, hr, hlocks, hA, hK, hN⟩ := id E
  obtain ⟨hx, hb, hml, hown, hts⟩ := id C
  unfold r_ask at hB
  refine lv_aload_n hx hb dX11_ask_0 rfl (lv_at hl 0 rfl) ?_
  refine lv_iload_n hx hb dX11_ask_1 rfl (lv_at hl 1 rfl) ?_
  refine lv_iload_n hx hb dX11_ask_2 rfl (lv_at hl 2 rfl) ?_
  obtain ⟨q_, s1, hc, hB⟩ := bindI_inv hB
  refine q_goiF (va_runV (As := [.int x1, .int x2]) (rest := []) C (cr_isAsked hc _) (cwV 2 hts gX11_ask_X11_isAsked rfl rfl rfl (by decide +kernel) ⟨Nat.le_of_ble_eq_true rfl, Nat.le_of_ble_eq_true rfl⟩) (q_preV hK hP (ci := 11) (q0 := 0) rfl rfl rfl (q_preF hN hK hP hD)) rfl rfl hl.1 rfl (lv_room (Nat.le_of_ble_eq_true rfl)) dX11_ask_3 ⟨Nat.le_of_ble_eq_true rfl, Nat.le_of_ble_eq_true rfl⟩) hD hS hA (fun r2 w1 H locs hw hP hD hS => ?_)
  obtain ⟨hq_, hw⟩ := hw; subst hw; subst hq_
  refine lv_if_ne (tgt := 11) hx hb dX11_ask_6 (by decide) (fun c3 => ?_) (fun c3 => ?_)
  · have hB := if_n hB c3
    refine lv_aload_n hx hb dX11_ask_11 rfl (lv_at hl 0 rfl) ?_
    obtain ⟨s4, hc, hB⟩ := bindP_inv hB
    refine q_govF (va_runV (As := []) (rest := []) C (cr_fillsChances hc _) (cwV 0 hts gX11_ask_X11_fillsChances rfl rfl rfl (by decide +kernel) ⟨Nat.le_of_ble_eq_true rfl, Nat.le_of_ble_eq_true rfl⟩) (q_preV hK hP (ci := 11) (q0 := 0) rfl rfl rfl (q_preF hN hK hP hD)) rfl rfl hl.1 rfl (lv_room (Nat.le_of_ble_eq_true rfl)) dX11_ask_12 ⟨Nat.le_of_ble_eq_true rfl, Nat.le_of_ble_eq_true rfl⟩) hD hS hA (fun w1 H locs hw hP hD hS => ?_)
    subst hw
    refine lv_iconst (v := 0) hx hb dX11_ask_15 (by decide) ?_
    refine lv_istore_n (lv' := [(3, .int 0), (0, .ref h), (1, .int x1), (2, .int x2)]) hx hb dX11_ask_16 rfl hl (by decide) rfl (fun ls hl => ?_)
    exact br_ask_17L fu _ _ _ _ hB p e s0 m below meth c A E H locs ls hP hD hS (lv_sub hl [1, 2, 3, 0] rfl)
  · have hB := if_p hB c3
    refine lv_iconst (v := (-1)) hx hb dX11_ask_9 (by decide) ?_
    exact q_iret C hr hlocks hK hP hD hS (Nat.le_of_ble_eq_true rfl) (Nat.le_of_ble_eq_true rfl) dX11_ask_10 (by cases hB; exact ⟨rfl, rfl⟩)
theorem cr_ask {l : Launch} {dC : Nat → ClassId} {dI : Nat → Nat → Nat} {cB cI cJ cZ cS : ClassId} {h : Nat} {a : Nat → Nat} {r : Int32} {s' : RS} {s : RS} {x1 : Int32} {x2 : Int32} (hB : r_ask s x1 x2 = some (r, s')) : CI l yX11_ask wsX11_ask ({ frames := 5, cells := 0, slots := 0, locals := 112 }) (dC, dI) (tysA cB cI cJ cZ cS) (mwS cB cI cJ cZ h a s) [.ref h, .int x1, .int x2] (fun x u => x = r ∧ u = (mwS cB cI cJ cZ h a s')) :=
  CI_of (cc := cX11_ask) (maxL := 6) (ret := (some .int)) (by decide) rfl (Nat.le_of_ble_eq_true rfl) (br_ask _ _ _ hB)
end
section
theorem ggX11_hold_X11_in : GoodIn wsX11_hold wsX11_in := gi_sub (fun w h => List.mem_cons_of_mem _ (List.mem_append_left _ (List.mem_append_right _ h))) gd_wsX11_in
set_option maxRecDepth 20000 in
theorem gX11_hold_X11_in : GoodIn wsX11_hold (va_wsS RX11 281 yX11_in wsX11_in) := goodIn_app (goodIn_of _ (by decide +kernel)) ggX11_hold_X11_in
theorem dX11_hold_0 : decode cX11_hold 0 = .ok (.iload_n 1, 1) := dc1_27 (by decide +kernel)
theorem dX11_hold_1 : decode cX11_hold 1 = .ok (.iconst 0, 1) := dc1_3 (by decide +kernel)
theorem dX11_hold_2 : decode cX11_hold 2 = .ok (.iconst 2, 1) := dc1_5 (by decide +kernel)
theorem dX11_hold_3 : decode cX11_hold 3 = .ok (.invokestatic 281, 3) := dcw_184 (by decide +kernel)
theorem dX11_hold_6 : decode cX11_hold 6 = .ok (.ifCond .ne 5, 3) := dcs_154 (n := 5) (by decide +kernel)
theorem dX11_hold_9 : decode cX11_hold 9 = .ok (.iconst 0, 1) := dc1_3 (by decide +kernel)
theorem dX11_hold_10 : decode cX11_hold 10 = .ok (.ireturn, 1) := dc1_172 (by decide +kernel)
theorem dX11_hold_11 : decode cX11_hold 11 = .ok (.aload_n 0, 1) := dc1_42 (by decide +kernel)
theorem dX11_hold_12 : decode cX11_hold 12 = .ok (.getfield 128, 3) := dcw_180 (by decide +kernel)
theorem dX11_hold_15 : decode cX11_hold 15 = .ok (.iload_n 1, 1) := dc1_27 (by decide +kernel)
theorem dX11_hold_16 : decode cX11_hold 16 = .ok (.iconst 1, 1) := dc1_4 (by decide +kernel)
theorem dX11_hold_17 : decode cX11_hold 17 = .ok (.bastore, 1) := dc1_84 (by decide +kernel)
theorem dX11_hold_18 : decode cX11_hold 18 = .ok (.iconst 0, 1) := dc1_3 (by decide +kernel)
theorem dX11_hold_19 : decode cX11_hold 19 = .ok (.istore_n 2, 1) := dc1_61 (by decide +kernel)
theorem dX11_hold_20 : decode cX11_hold 20 = .ok (.iload_n 2, 1) := dc1_28 (by decide +kernel)
theorem dX11_hold_21 : decode cX11_hold 21 = .ok (.bipush 29, 2) := dcb_16 (n := 29) (by decide +kernel)
theorem dX11_hold_23 : decode cX11_hold 23 = .ok (.if_icmp .ge 26, 3) := dcs_162 (n := 26) (by decide +kernel)
theorem dX11_hold_26 : decode cX11_hold 26 = .ok (.aload_n 0, 1) := dc1_42 (by decide +kernel)
theorem dX11_hold_27 : decode cX11_hold 27 = .ok (.getfield 131, 3) := dcw_180 (by decide +kernel)
theorem dX11_hold_30 : decode cX11_hold 30 = .ok (.bipush 29, 2) := dcb_16 (n := 29) (by decide +kernel)
theorem dX11_hold_32 : decode cX11_hold 32 = .ok (.iload_n 1, 1) := dc1_27 (by decide +kernel)
theorem dX11_hold_33 : decode cX11_hold 33 = .ok (.imul, 1) := dc1_104 (by decide +kernel)
theorem dX11_hold_34 : decode cX11_hold 34 = .ok (.iload_n 2, 1) := dc1_28 (by decide +kernel)
theorem dX11_hold_35 : decode cX11_hold 35 = .ok (.iadd, 1) := dc1_96 (by decide +kernel)
theorem dX11_hold_36 : decode cX11_hold 36 = .ok (.aload_n 0, 1) := dc1_42 (by decide +kernel)
theorem dX11_hold_37 : decode cX11_hold 37 = .ok (.getfield 98, 3) := dcw_180 (by decide +kernel)
theorem dX11_hold_40 : decode cX11_hold 40 = .ok (.iload_n 2, 1) := dc1_28 (by decide +kernel)
theorem dX11_hold_41 : decode cX11_hold 41 = .ok (.iaload, 1) := dc1_46 (by decide +kernel)
theorem dX11_hold_42 : decode cX11_hold 42 = .ok (.iastore, 1) := dc1_79 (by decide +kernel)
theorem dX11_hold_43 : decode cX11_hold 43 = .ok (.iinc 2 1, 3) := dc_iinc (m := 1) (by decide +kernel)
theorem dX11_hold_46 : decode cX11_hold 46 = .ok (.goto (-26), 3) := dcs_167 (n := 65510) (by decide +kernel)
theorem dX11_hold_49 : decode cX11_hold 49 = .ok (.iconst 1, 1) := dc1_4 (by decide +kernel)
theorem dX11_hold_50 : decode cX11_hold 50 = .ok (.ireturn, 1) := dc1_172 (by decide +kernel)
theorem ggX11_restore_X11_in : GoodIn wsX11_restore wsX11_in := gi_sub (fun w h => List.mem_cons_of_mem _ (List.mem_append_left _ (List.mem_append_right _ h))) gd_wsX11_in
set_option maxRecDepth 20000 in
theorem gX11_restore_X11_in : GoodIn wsX11_restore (va_wsS RX11 281 yX11_in wsX11_in) := goodIn_app (goodIn_of _ (by decide +kernel)) ggX11_restore_X11_in
theorem dX11_restore_0 : decode cX11_restore 0 = .ok (.iload_n 1, 1) := dc1_27 (by decide +kernel)
theorem dX11_restore_1 : decode cX11_restore 1 = .ok (.iconst 0, 1) := dc1_3 (by decide +kernel)
theorem dX11_restore_2 : decode cX11_restore 2 = .ok (.iconst 2, 1) := dc1_5 (by decide +kernel)
theorem dX11_restore_3 : decode cX11_restore 3 = .ok (.invokestatic 281, 3) := dcw_184 (by decide +kernel)
theorem dX11_restore_6 : decode cX11_restore 6 = .ok (.ifCond .eq 12, 3) := dcs_153 (n := 12) (by decide +kernel)
theorem dX11_restore_9 : decode cX11_restore 9 = .ok (.aload_n 0, 1) := dc1_42 (by decide +kernel)
theorem dX11_restore_10 : decode cX11_restore 10 = .ok (.getfield 128, 3) := dcw_180 (by decide +kernel)
theorem dX11_restore_13 : decode cX11_restore 13 = .ok (.iload_n 1, 1) := dc1_27 (by decide +kernel)
theorem dX11_restore_14 : decode cX11_restore 14 = .ok (.baload, 1) := dc1_51 (by decide +kernel)
theorem dX11_restore_15 : decode cX11_restore 15 = .ok (.ifCond .ne 5, 3) := dcs_154 (n := 5) (by decide +kernel)
theorem dX11_restore_18 : decode cX11_restore 18 = .ok (.iconst 0, 1) := dc1_3 (by decide +kernel)
theorem dX11_restore_19 : decode cX11_restore 19 = .ok (.ireturn, 1) := dc1_172 (by decide +kernel)
theorem dX11_restore_20 : decode cX11_restore 20 = .ok (.iconst 0, 1) := dc1_3 (by decide +kernel)
theorem dX11_restore_21 : decode cX11_restore 21 = .ok (.istore_n 2, 1) := dc1_61 (by decide +kernel)
theorem dX11_restore_22 : decode cX11_restore 22 = .ok (.iload_n 2, 1) := dc1_28 (by decide +kernel)
theorem dX11_restore_23 : decode cX11_restore 23 = .ok (.bipush 29, 2) := dcb_16 (n := 29) (by decide +kernel)
theorem dX11_restore_25 : decode cX11_restore 25 = .ok (.if_icmp .ge 26, 3) := dcs_162 (n := 26) (by decide +kernel)
theorem dX11_restore_28 : decode cX11_restore 28 = .ok (.aload_n 0, 1) := dc1_42 (by decide +kernel)
theorem dX11_restore_29 : decode cX11_restore 29 = .ok (.getfield 98, 3) := dcw_180 (by decide +kernel)
theorem dX11_restore_32 : decode cX11_restore 32 = .ok (.iload_n 2, 1) := dc1_28 (by decide +kernel)
theorem dX11_restore_33 : decode cX11_restore 33 = .ok (.aload_n 0, 1) := dc1_42 (by decide +kernel)
theorem dX11_restore_34 : decode cX11_restore 34 = .ok (.getfield 131, 3) := dcw_180 (by decide +kernel)
theorem dX11_restore_37 : decode cX11_restore 37 = .ok (.bipush 29, 2) := dcb_16 (n := 29) (by decide +kernel)
theorem dX11_restore_39 : decode cX11_restore 39 = .ok (.iload_n 1, 1) := dc1_27 (by decide +kernel)
theorem dX11_restore_40 : decode cX11_restore 40 = .ok (.imul, 1) := dc1_104 (by decide +kernel)
theorem dX11_restore_41 : decode cX11_restore 41 = .ok (.iload_n 2, 1) := dc1_28 (by decide +kernel)
theorem dX11_restore_42 : decode cX11_restore 42 = .ok (.iadd, 1) := dc1_96 (by decide +kernel)
theorem dX11_restore_43 : decode cX11_restore 43 = .ok (.iaload, 1) := dc1_46 (by decide +kernel)
theorem dX11_restore_44 : decode cX11_restore 44 = .ok (.iastore, 1) := dc1_79 (by decide +kernel)
theorem dX11_restore_45 : decode cX11_restore 45 = .ok (.iinc 2 1, 3) := dc_iinc (m := 1) (by decide +kernel)
theorem dX11_restore_48 : decode cX11_restore 48 = .ok (.goto (-26), 3) := dcs_167 (n := 65510) (by decide +kernel)
theorem dX11_restore_51 : decode cX11_restore 51 = .ok (.aload_n 0, 1) := dc1_42 (by decide +kernel)
theorem dX11_restore_52 : decode cX11_restore 52 = .ok (.iconst 0, 1) := dc1_3 (by decide +kernel)
theorem dX11_restore_53 : decode cX11_restore 53 = .ok (.putfield 230, 3) := dcw_181 (by decide +kernel)
theorem dX11_restore_56 : decode cX11_restore 56 = .ok (.iconst 1, 1) := dc1_4 (by decide +kernel)
theorem dX11_restore_57 : decode cX11_restore 57 = .ok (.ireturn, 1) := dc1_172 (by decide +kernel)
theorem dX11_partiesIn_0 : decode cX11_partiesIn 0 = .ok (.iconst 0, 1) := dc1_3 (by decide +kernel)
theorem dX11_partiesIn_1 : decode cX11_partiesIn 1 = .ok (.istore_n 2, 1) := dc1_61 (by decide +kernel)
theorem dX11_partiesIn_2 : decode cX11_partiesIn 2 = .ok (.iconst 0, 1) := dc1_3 (by decide +kernel)
theorem dX11_partiesIn_3 : decode cX11_partiesIn 3 = .ok (.istore_n 3, 1) := dc1_62 (by decide +kernel)
theorem dX11_partiesIn_4 : decode cX11_partiesIn 4 = .ok (.iload_n 3, 1) := dc1_29 (by decide +kernel)
theorem dX11_partiesIn_5 : decode cX11_partiesIn 5 = .ok (.aload_n 0, 1) := dc1_42 (by decide +kernel)
theorem dX11_partiesIn_6 : decode cX11_partiesIn 6 = .ok (.getfield 49, 3) := dcw_180 (by decide +kernel)
theorem dX11_partiesIn_9 : decode cX11_partiesIn 9 = .ok (.aload_n 0, 1) := dc1_42 (by decide +kernel)
theorem dX11_partiesIn_10 : decode cX11_partiesIn 10 = .ok (.getfield 215, 3) := dcw_180 (by decide +kernel)
theorem dX11_partiesIn_13 : decode cX11_partiesIn 13 = .ok (.iaload, 1) := dc1_46 (by decide +kernel)
theorem dX11_partiesIn_14 : decode cX11_partiesIn 14 = .ok (.if_icmp .ge 28, 3) := dcs_162 (n := 28) (by decide +kernel)
theorem dX11_partiesIn_17 : decode cX11_partiesIn 17 = .ok (.aload_n 0, 1) := dc1_42 (by decide +kernel)
theorem dX11_partiesIn_18 : decode cX11_partiesIn 18 = .ok (.getfield 101, 3) := dcw_180 (by decide +kernel)
theorem dX11_partiesIn_21 : decode cX11_partiesIn 21 = .ok (.bipush 15, 2) := dcb_16 (n := 15) (by decide +kernel)
theorem dX11_partiesIn_23 : decode cX11_partiesIn 23 = .ok (.iload_n 3, 1) := dc1_29 (by decide +kernel)
theorem dX11_partiesIn_24 : decode cX11_partiesIn 24 = .ok (.iadd, 1) := dc1_96 (by decide +kernel)
theorem dX11_partiesIn_25 : decode cX11_partiesIn 25 = .ok (.iaload, 1) := dc1_46 (by decide +kernel)
theorem dX11_partiesIn_26 : decode cX11_partiesIn 26 = .ok (.iload_n 1, 1) := dc1_27 (by decide +kernel)
theorem dX11_partiesIn_27 : decode cX11_partiesIn 27 = .ok (.if_icmp .ne 9, 3) := dcs_160 (n := 9) (by decide +kernel)
theorem dX11_partiesIn_30 : decode cX11_partiesIn 30 = .ok (.iload_n 2, 1) := dc1_28 (by decide +kernel)
theorem dX11_partiesIn_31 : decode cX11_partiesIn 31 = .ok (.iconst 1, 1) := dc1_4 (by decide +kernel)
theorem dX11_partiesIn_32 : decode cX11_partiesIn 32 = .ok (.iload_n 3, 1) := dc1_29 (by decide +kernel)
theorem dX11_partiesIn_33 : decode cX11_partiesIn 33 = .ok (.ishl, 1) := dc1_120 (by decide +kernel)
theorem dX11_partiesIn_34 : decode cX11_partiesIn 34 = .ok (.ior, 1) := dc1_128 (by decide +kernel)
theorem dX11_partiesIn_35 : decode cX11_partiesIn 35 = .ok (.istore_n 2, 1) := dc1_61 (by decide +kernel)
theorem dX11_partiesIn_36 : decode cX11_partiesIn 36 = .ok (.iinc 3 1, 3) := dc_iinc (m := 1) (by decide +kernel)
theorem dX11_partiesIn_39 : decode cX11_partiesIn 39 = .ok (.goto (-35), 3) := dcs_167 (n := 65501) (by decide +kernel)
theorem dX11_partiesIn_42 : decode cX11_partiesIn 42 = .ok (.iload_n 2, 1) := dc1_28 (by decide +kernel)
theorem dX11_partiesIn_43 : decode cX11_partiesIn 43 = .ok (.ireturn, 1) := dc1_172 (by decide +kernel)
theorem dX11_sumNow_0 : decode cX11_sumNow 0 = .ok (.iconst 0, 1) := dc1_3 (by decide +kernel)
theorem dX11_sumNow_1 : decode cX11_sumNow 1 = .ok (.istore_n 3, 1) := dc1_62 (by decide +kernel)
theorem dX11_sumNow_2 : decode cX11_sumNow 2 = .ok (.iload_n 1, 1) := dc1_27 (by decide +kernel)
theorem dX11_sumNow_3 : decode cX11_sumNow 3 = .ok (.istore 4, 2) := dcu_54 (by decide +kernel)
theorem dX11_sumNow_5 : decode cX11_sumNow 5 = .ok (.iload 4, 2) := dcu_21 (by decide +kernel)
theorem dX11_sumNow_7 : decode cX11_sumNow 7 = .ok (.iload_n 1, 1) := dc1_27 (by decide +kernel)
theorem dX11_sumNow_8 : decode cX11_sumNow 8 = .ok (.iload_n 2, 1) := dc1_28 (by decide +kernel)
theorem dX11_sumNow_9 : decode cX11_sumNow 9 = .ok (.iadd, 1) := dc1_96 (by decide +kernel)
theorem dX11_sumNow_10 : decode cX11_sumNow 10 = .ok (.if_icmp .ge 19, 3) := dcs_162 (n := 19) (by decide +kernel)
theorem dX11_sumNow_13 : decode cX11_sumNow 13 = .ok (.iload_n 3, 1) := dc1_29 (by decide +kernel)
theorem dX11_sumNow_14 : decode cX11_sumNow 14 = .ok (.aload_n 0, 1) := dc1_42 (by decide +kernel)
theorem dX11_sumNow_15 : decode cX11_sumNow 15 = .ok (.getfield 98, 3) := dcw_180 (by decide +kernel)
theorem dX11_sumNow_18 : decode cX11_sumNow 18 = .ok (.iload 4, 2) := dcu_21 (by decide +kernel)
theorem dX11_sumNow_20 : decode cX11_sumNow 20 = .ok (.iaload, 1) := dc1_46 (by decide +kernel)
theorem dX11_sumNow_21 : decode cX11_sumNow 21 = .ok (.iadd, 1) := dc1_96 (by decide +kernel)
theorem dX11_sumNow_22 : decode cX11_sumNow 22 = .ok (.istore_n 3, 1) := dc1_62 (by decide +kernel)
theorem dX11_sumNow_23 : decode cX11_sumNow 23 = .ok (.iinc 4 1, 3) := dc_iinc (m := 1) (by decide +kernel)
theorem dX11_sumNow_26 : decode cX11_sumNow 26 = .ok (.goto (-21), 3) := dcs_167 (n := 65515) (by decide +kernel)
theorem dX11_sumNow_29 : decode cX11_sumNow 29 = .ok (.iload_n 3, 1) := dc1_29 (by decide +kernel)
theorem dX11_sumNow_30 : decode cX11_sumNow 30 = .ok (.ireturn, 1) := dc1_172 (by decide +kernel)
theorem ggX11_count_X11_copies : GoodIn wsX11_count wsX11_copies := gi_sub (fun w h => List.mem_cons_of_mem _ (List.mem_append_left _ (List.mem_append_right _ (List.mem_append_left _ h)))) gd_wsX11_copies
set_option maxRecDepth 20000 in
theorem gX11_count_X11_copies : GoodIn wsX11_count (wsV RX11 352 RX11 yX11_copies wsX11_copies) := goodIn_app (goodIn_r _ [9, 10, 11, 12] (by decide +kernel) (by decide +kernel)) ggX11_count_X11_copies
theorem ggX11_count_X11_partiesIn : GoodIn wsX11_count wsX11_partiesIn := gi_sub (fun w h => List.mem_cons_of_mem _ (List.mem_append_left _ (List.mem_append_right _ (List.mem_append_right _ (List.mem_append_left _ h))))) gd_wsX11_partiesIn
set_option maxRecDepth 20000 in
theorem gX11_count_X11_partiesIn : GoodIn wsX11_count (wsV RX11 431 RX11 yX11_partiesIn wsX11_partiesIn) := goodIn_app (goodIn_r _ [13, 14, 15, 12] (by decide +kernel) (by decide +kernel)) ggX11_count_X11_partiesIn
theorem ggX11_count_X11_sumNow : GoodIn wsX11_count wsX11_sumNow := gi_sub (fun w h => List.mem_cons_of_mem _ (List.mem_append_left _ (List.mem_append_right _ (List.mem_append_right _ (List.mem_append_right _ (List.mem_append_left _ h)))))) gd_wsX11_sumNow
set_option maxRecDepth 20000 in
theorem gX11_count_X11_sumNow : GoodIn wsX11_count (wsV RX11 434 RX11 yX11_sumNow wsX11_sumNow) := goodIn_app (goodIn_r _ [16, 17, 18, 12] (by decide +kernel) (by decide +kernel)) ggX11_count_X11_sumNow
theorem ggX11_count_X11_bits : GoodIn wsX11_count wsX11_bits := gi_sub (fun w h => List.mem_cons_of_mem _ (List.mem_append_left _ (List.mem_append_right _ (List.mem_append_right _ (List.mem_append_right _ (List.mem_append_right _ (List.mem_append_left _ h))))))) gd_wsX11_bits
set_option maxRecDepth 20000 in
theorem gX11_count_X11_bits : GoodIn wsX11_count (va_wsS RX11 312 yX11_bits wsX11_bits) := goodIn_app (goodIn_of _ (by decide +kernel)) ggX11_count_X11_bits
theorem ggX11_count_X11_guesses : GoodIn wsX11_count wsX11_guesses := gi_sub (fun w h => List.mem_cons_of_mem _ (List.mem_append_left _ (List.mem_append_right _ (List.mem_append_right _ (List.mem_append_right _ (List.mem_append_right _ (List.mem_append_right _ (List.mem_append_left _ h)))))))) gd_wsX11_guesses
set_option maxRecDepth 20000 in
theorem gX11_count_X11_guesses : GoodIn wsX11_count (wsV RX11 285 RX11 yX11_guesses wsX11_guesses) := goodIn_app (goodIn_r _ [21, 22, 23, 12] (by decide +kernel) (by decide +kernel)) ggX11_count_X11_guesses
theorem ggX11_count_X11_thereNumber : GoodIn wsX11_count wsX11_thereNumber := gi_sub (fun w h => List.mem_cons_of_mem _ (List.mem_append_left _ (List.mem_append_right _ (List.mem_append_right _ (List.mem_append_right _ (List.mem_append_right _ (List.mem_append_right _ (List.mem_append_right _ (List.mem_append_left _ h))))))))) gd_wsX11_thereNumber
set_option maxRecDepth 20000 in
theorem gX11_count_X11_thereNumber : GoodIn wsX11_count (wsV RX11 370 RX11 yX11_thereNumber wsX11_thereNumber) := goodIn_app (goodIn_r _ [24, 25, 26, 12] (by decide +kernel) (by decide +kernel)) ggX11_count_X11_thereNumber
theorem ggX11_count_X11_mayAt : GoodIn wsX11_count wsX11_mayAt := gi_sub (fun w h => List.mem_cons_of_mem _ (List.mem_append_left _ (List.mem_append_right _ (List.mem_append_right _ (List.mem_append_right _ (List.mem_append_right _ (List.mem_append_right _ (List.mem_append_right _ (List.mem_append_right _ (List.mem_append_left _ h)))))))))) gd_wsX11_mayAt
set_option maxRecDepth 20000 in
theorem gX11_count_X11_mayAt : GoodIn wsX11_count (wsV RX11 309 RX11 yX11_mayAt wsX11_mayAt) := goodIn_app (goodIn_r _ [27, 28, 29, 12] (by decide +kernel) (by decide +kernel)) ggX11_count_X11_mayAt
theorem ggX11_count_X11_isHere : GoodIn wsX11_count wsX11_isHere := gi_sub (fun w h => List.mem_cons_of_mem _ (List.mem_append_left _ (List.mem_append_right _ (List.mem_append_right _ (List.mem_append_right _ (List.mem_append_right _ (List.mem_append_right _ (List.mem_append_right _ (List.mem_append_right _ (List.mem_append_right _ (List.mem_append_left _ h))))))))))) gd_wsX11_isHere
set_option maxRecDepth 20000 in
theorem gX11_count_X11_isHere : GoodIn wsX11_count (wsV RX11 364 RX11 yX11_isHere wsX11_isHere) := goodIn_app (goodIn_r _ [30, 31, 32, 12] (by decide +kernel) (by decide +kernel)) ggX11_count_X11_isHere
theorem ggX11_count_X11_faresOf : GoodIn wsX11_count wsX11_faresOf := gi_sub (fun w h => List.mem_cons_of_mem _ (List.mem_append_left _ (List.mem_append_right _ (List.mem_append_right _ (List.mem_append_right _ (List.mem_append_right _ (List.mem_append_right _ (List.mem_append_right _ (List.mem_append_right _ (List.mem_append_right _ (List.mem_append_right _ h))))))))))) gd_wsX11_faresOf
set_option maxRecDepth 20000 in
theorem gX11_count_X11_faresOf : GoodIn wsX11_count (wsV RX11 339 RX11 yX11_faresOf wsX11_faresOf) := goodIn_app (goodIn_r _ [33, 34, 35, 12] (by decide +kernel) (by decide +kernel)) ggX11_count_X11_faresOf
theorem dX11_count_0 : decode cX11_count 0 = .ok (.aload_n 0, 1) := dc1_42 (by decide +kernel)
theorem dX11_count_1 : decode cX11_count 1 = .ok (.invokevirtual 352, 3) := dcw_182 (by decide +kernel)
theorem dX11_count_4 : decode cX11_count 4 = .ok (.iconst 0, 1) := dc1_3 (by decide +kernel)
theorem dX11_count_5 : decode cX11_count 5 = .ok (.istore_n 2, 1) := dc1_61 (by decide +kernel)
theorem dX11_count_6 : decode cX11_count 6 = .ok (.iload_n 1, 1) := dc1_27 (by decide +kernel)
theorem dX11_count_7 : decode cX11_count 7 = .ok (.tableswitch 396 0 18 #[89, 99, 109, 117, 125, 131, 137, 143, 152, 157, 162, 167, 212, 262, 302, 307, 312, 320, 357], 89) := by decide +kernel
theorem dX11_count_96 : decode cX11_count 96 = .ok (.aload_n 0, 1) := dc1_42 (by decide +kernel)
theorem dX11_count_97 : decode cX11_count 97 = .ok (.getfield 40, 3) := dcw_180 (by decide +kernel)
theorem dX11_count_100 : decode cX11_count 100 = .ok (.aload_n 0, 1) := dc1_42 (by decide +kernel)
theorem dX11_count_101 : decode cX11_count 101 = .ok (.getfield 215, 3) := dcw_180 (by decide +kernel)
theorem dX11_count_104 : decode cX11_count 104 = .ok (.iaload, 1) := dc1_46 (by decide +kernel)
theorem dX11_count_105 : decode cX11_count 105 = .ok (.ireturn, 1) := dc1_172 (by decide +kernel)
theorem dX11_count_106 : decode cX11_count 106 = .ok (.aload_n 0, 1) := dc1_42 (by decide +kernel)
theorem dX11_count_107 : decode cX11_count 107 = .ok (.getfield 49, 3) := dcw_180 (by decide +kernel)
theorem dX11_count_110 : decode cX11_count 110 = .ok (.aload_n 0, 1) := dc1_42 (by decide +kernel)
theorem dX11_count_111 : decode cX11_count 111 = .ok (.getfield 215, 3) := dcw_180 (by decide +kernel)
theorem dX11_count_114 : decode cX11_count 114 = .ok (.iaload, 1) := dc1_46 (by decide +kernel)
theorem dX11_count_115 : decode cX11_count 115 = .ok (.ireturn, 1) := dc1_172 (by decide +kernel)
theorem dX11_count_116 : decode cX11_count 116 = .ok (.aload_n 0, 1) := dc1_42 (by decide +kernel)
theorem dX11_count_117 : decode cX11_count 117 = .ok (.getfield 101, 3) := dcw_180 (by decide +kernel)
theorem dX11_count_120 : decode cX11_count 120 = .ok (.bipush 27, 2) := dcb_16 (n := 27) (by decide +kernel)
theorem dX11_count_122 : decode cX11_count 122 = .ok (.iaload, 1) := dc1_46 (by decide +kernel)
theorem dX11_count_123 : decode cX11_count 123 = .ok (.ireturn, 1) := dc1_172 (by decide +kernel)
theorem dX11_count_124 : decode cX11_count 124 = .ok (.aload_n 0, 1) := dc1_42 (by decide +kernel)
theorem dX11_count_125 : decode cX11_count 125 = .ok (.getfield 101, 3) := dcw_180 (by decide +kernel)
theorem dX11_count_128 : decode cX11_count 128 = .ok (.bipush 28, 2) := dcb_16 (n := 28) (by decide +kernel)
theorem dX11_count_130 : decode cX11_count 130 = .ok (.iaload, 1) := dc1_46 (by decide +kernel)
theorem dX11_count_131 : decode cX11_count 131 = .ok (.ireturn, 1) := dc1_172 (by decide +kernel)
theorem dX11_count_132 : decode cX11_count 132 = .ok (.aload_n 0, 1) := dc1_42 (by decide +kernel)
theorem dX11_count_133 : decode cX11_count 133 = .ok (.iconst 0, 1) := dc1_3 (by decide +kernel)
theorem dX11_count_134 : decode cX11_count 134 = .ok (.invokevirtual 431, 3) := dcw_182 (by decide +kernel)
theorem dX11_count_137 : decode cX11_count 137 = .ok (.ireturn, 1) := dc1_172 (by decide +kernel)
theorem dX11_count_138 : decode cX11_count 138 = .ok (.aload_n 0, 1) := dc1_42 (by decide +kernel)
theorem dX11_count_139 : decode cX11_count 139 = .ok (.iconst 1, 1) := dc1_4 (by decide +kernel)
theorem dX11_count_140 : decode cX11_count 140 = .ok (.invokevirtual 431, 3) := dcw_182 (by decide +kernel)
theorem dX11_count_143 : decode cX11_count 143 = .ok (.ireturn, 1) := dc1_172 (by decide +kernel)
theorem dX11_count_144 : decode cX11_count 144 = .ok (.aload_n 0, 1) := dc1_42 (by decide +kernel)
theorem dX11_count_145 : decode cX11_count 145 = .ok (.iconst 2, 1) := dc1_5 (by decide +kernel)
theorem dX11_count_146 : decode cX11_count 146 = .ok (.invokevirtual 431, 3) := dcw_182 (by decide +kernel)
theorem dX11_count_149 : decode cX11_count 149 = .ok (.ireturn, 1) := dc1_172 (by decide +kernel)
theorem dX11_count_150 : decode cX11_count 150 = .ok (.aload_n 0, 1) := dc1_42 (by decide +kernel)
theorem dX11_count_151 : decode cX11_count 151 = .ok (.bipush 21, 2) := dcb_16 (n := 21) (by decide +kernel)
theorem dX11_count_153 : decode cX11_count 153 = .ok (.bipush 6, 2) := dcb_16 (n := 6) (by decide +kernel)
theorem dX11_count_155 : decode cX11_count 155 = .ok (.invokevirtual 434, 3) := dcw_182 (by decide +kernel)
theorem dX11_count_158 : decode cX11_count 158 = .ok (.ireturn, 1) := dc1_172 (by decide +kernel)
theorem dX11_count_159 : decode cX11_count 159 = .ok (.aload_n 0, 1) := dc1_42 (by decide +kernel)
theorem dX11_count_160 : decode cX11_count 160 = .ok (.getfield 148, 3) := dcw_180 (by decide +kernel)
theorem dX11_count_163 : decode cX11_count 163 = .ok (.ireturn, 1) := dc1_172 (by decide +kernel)
theorem dX11_count_164 : decode cX11_count 164 = .ok (.aload_n 0, 1) := dc1_42 (by decide +kernel)
theorem dX11_count_165 : decode cX11_count 165 = .ok (.getfield 230, 3) := dcw_180 (by decide +kernel)
theorem dX11_count_168 : decode cX11_count 168 = .ok (.ireturn, 1) := dc1_172 (by decide +kernel)
theorem dX11_count_169 : decode cX11_count 169 = .ok (.aload_n 0, 1) := dc1_42 (by decide +kernel)
theorem dX11_count_170 : decode cX11_count 170 = .ok (.getfield 233, 3) := dcw_180 (by decide +kernel)
theorem dX11_count_173 : decode cX11_count 173 = .ok (.ireturn, 1) := dc1_172 (by decide +kernel)
theorem dX11_count_174 : decode cX11_count 174 = .ok (.aload_n 0, 1) := dc1_42 (by decide +kernel)
theorem dX11_count_175 : decode cX11_count 175 = .ok (.getfield 128, 3) := dcw_180 (by decide +kernel)
theorem dX11_count_178 : decode cX11_count 178 = .ok (.iconst 0, 1) := dc1_3 (by decide +kernel)
theorem dX11_count_179 : decode cX11_count 179 = .ok (.baload, 1) := dc1_51 (by decide +kernel)
theorem dX11_count_180 : decode cX11_count 180 = .ok (.ifCond .eq 7, 3) := dcs_153 (n := 7) (by decide +kernel)
theorem dX11_count_183 : decode cX11_count 183 = .ok (.iconst 1, 1) := dc1_4 (by decide +kernel)
theorem dX11_count_184 : decode cX11_count 184 = .ok (.goto 4, 3) := dcs_167 (n := 4) (by decide +kernel)
theorem dX11_count_187 : decode cX11_count 187 = .ok (.iconst 0, 1) := dc1_3 (by decide +kernel)
theorem dX11_count_188 : decode cX11_count 188 = .ok (.aload_n 0, 1) := dc1_42 (by decide +kernel)
theorem dX11_count_189 : decode cX11_count 189 = .ok (.getfield 128, 3) := dcw_180 (by decide +kernel)
theorem dX11_count_192 : decode cX11_count 192 = .ok (.iconst 1, 1) := dc1_4 (by decide +kernel)
theorem dX11_count_193 : decode cX11_count 193 = .ok (.baload, 1) := dc1_51 (by decide +kernel)
theorem dX11_count_194 : decode cX11_count 194 = .ok (.ifCond .eq 7, 3) := dcs_153 (n := 7) (by decide +kernel)
theorem dX11_count_197 : decode cX11_count 197 = .ok (.iconst 1, 1) := dc1_4 (by decide +kernel)
theorem dX11_count_198 : decode cX11_count 198 = .ok (.goto 4, 3) := dcs_167 (n := 4) (by decide +kernel)
theorem dX11_count_201 : decode cX11_count 201 = .ok (.iconst 0, 1) := dc1_3 (by decide +kernel)
theorem dX11_count_202 : decode cX11_count 202 = .ok (.iadd, 1) := dc1_96 (by decide +kernel)
theorem dX11_count_203 : decode cX11_count 203 = .ok (.aload_n 0, 1) := dc1_42 (by decide +kernel)
theorem dX11_count_204 : decode cX11_count 204 = .ok (.getfield 128, 3) := dcw_180 (by decide +kernel)
theorem dX11_count_207 : decode cX11_count 207 = .ok (.iconst 2, 1) := dc1_5 (by decide +kernel)
theorem dX11_count_208 : decode cX11_count 208 = .ok (.baload, 1) := dc1_51 (by decide +kernel)
theorem dX11_count_209 : decode cX11_count 209 = .ok (.ifCond .eq 7, 3) := dcs_153 (n := 7) (by decide +kernel)
theorem dX11_count_212 : decode cX11_count 212 = .ok (.iconst 1, 1) := dc1_4 (by decide +kernel)
theorem dX11_count_213 : decode cX11_count 213 = .ok (.goto 4, 3) := dcs_167 (n := 4) (by decide +kernel)
theorem dX11_count_216 : decode cX11_count 216 = .ok (.iconst 0, 1) := dc1_3 (by decide +kernel)
theorem dX11_count_217 : decode cX11_count 217 = .ok (.iadd, 1) := dc1_96 (by decide +kernel)
theorem dX11_count_218 : decode cX11_count 218 = .ok (.ireturn, 1) := dc1_172 (by decide +kernel)
theorem dX11_count_219 : decode cX11_count 219 = .ok (.aload_n 0, 1) := dc1_42 (by decide +kernel)
theorem dX11_count_220 : decode cX11_count 220 = .ok (.getfield 101, 3) := dcw_180 (by decide +kernel)
theorem dX11_count_223 : decode cX11_count 223 = .ok (.iconst 0, 1) := dc1_3 (by decide +kernel)
theorem dX11_count_224 : decode cX11_count 224 = .ok (.iaload, 1) := dc1_46 (by decide +kernel)
theorem dX11_count_225 : decode cX11_count 225 = .ok (.invokestatic 312, 3) := dcw_184 (by decide +kernel)
theorem dX11_count_228 : decode cX11_count 228 = .ok (.aload_n 0, 1) := dc1_42 (by decide +kernel)
theorem dX11_count_229 : decode cX11_count 229 = .ok (.getfield 101, 3) := dcw_180 (by decide +kernel)
theorem dX11_count_232 : decode cX11_count 232 = .ok (.iconst 1, 1) := dc1_4 (by decide +kernel)
theorem dX11_count_233 : decode cX11_count 233 = .ok (.iaload, 1) := dc1_46 (by decide +kernel)
theorem dX11_count_234 : decode cX11_count 234 = .ok (.invokestatic 312, 3) := dcw_184 (by decide +kernel)
theorem dX11_count_237 : decode cX11_count 237 = .ok (.iadd, 1) := dc1_96 (by decide +kernel)
theorem dX11_count_238 : decode cX11_count 238 = .ok (.aload_n 0, 1) := dc1_42 (by decide +kernel)
theorem dX11_count_239 : decode cX11_count 239 = .ok (.getfield 101, 3) := dcw_180 (by decide +kernel)
theorem dX11_count_242 : decode cX11_count 242 = .ok (.iconst 2, 1) := dc1_5 (by decide +kernel)
theorem dX11_count_243 : decode cX11_count 243 = .ok (.iaload, 1) := dc1_46 (by decide +kernel)
theorem dX11_count_244 : decode cX11_count 244 = .ok (.invokestatic 312, 3) := dcw_184 (by decide +kernel)
theorem dX11_count_247 : decode cX11_count 247 = .ok (.iadd, 1) := dc1_96 (by decide +kernel)
theorem dX11_count_248 : decode cX11_count 248 = .ok (.aload_n 0, 1) := dc1_42 (by decide +kernel)
theorem dX11_count_249 : decode cX11_count 249 = .ok (.getfield 101, 3) := dcw_180 (by decide +kernel)
theorem dX11_count_252 : decode cX11_count 252 = .ok (.iconst 3, 1) := dc1_6 (by decide +kernel)
theorem dX11_count_253 : decode cX11_count 253 = .ok (.iaload, 1) := dc1_46 (by decide +kernel)
theorem dX11_count_254 : decode cX11_count 254 = .ok (.invokestatic 312, 3) := dcw_184 (by decide +kernel)
theorem dX11_count_257 : decode cX11_count 257 = .ok (.iadd, 1) := dc1_96 (by decide +kernel)
theorem dX11_count_258 : decode cX11_count 258 = .ok (.aload_n 0, 1) := dc1_42 (by decide +kernel)
theorem dX11_count_259 : decode cX11_count 259 = .ok (.getfield 101, 3) := dcw_180 (by decide +kernel)
theorem dX11_count_262 : decode cX11_count 262 = .ok (.iconst 4, 1) := dc1_7 (by decide +kernel)
theorem dX11_count_263 : decode cX11_count 263 = .ok (.iaload, 1) := dc1_46 (by decide +kernel)
theorem dX11_count_264 : decode cX11_count 264 = .ok (.invokestatic 312, 3) := dcw_184 (by decide +kernel)
theorem dX11_count_267 : decode cX11_count 267 = .ok (.iadd, 1) := dc1_96 (by decide +kernel)
theorem dX11_count_268 : decode cX11_count 268 = .ok (.ireturn, 1) := dc1_172 (by decide +kernel)
theorem dX11_count_269 : decode cX11_count 269 = .ok (.iconst 0, 1) := dc1_3 (by decide +kernel)
theorem dX11_count_270 : decode cX11_count 270 = .ok (.istore_n 3, 1) := dc1_62 (by decide +kernel)
theorem dX11_count_271 : decode cX11_count 271 = .ok (.iload_n 3, 1) := dc1_29 (by decide +kernel)
theorem dX11_count_272 : decode cX11_count 272 = .ok (.aload_n 0, 1) := dc1_42 (by decide +kernel)
theorem dX11_count_273 : decode cX11_count 273 = .ok (.getfield 40, 3) := dcw_180 (by decide +kernel)
theorem dX11_count_276 : decode cX11_count 276 = .ok (.aload_n 0, 1) := dc1_42 (by decide +kernel)
theorem dX11_count_277 : decode cX11_count 277 = .ok (.getfield 215, 3) := dcw_180 (by decide +kernel)
theorem dX11_count_280 : decode cX11_count 280 = .ok (.iaload, 1) := dc1_46 (by decide +kernel)
theorem dX11_count_281 : decode cX11_count 281 = .ok (.if_icmp .ge 26, 3) := dcs_162 (n := 26) (by decide +kernel)
theorem dX11_count_284 : decode cX11_count 284 = .ok (.aload_n 0, 1) := dc1_42 (by decide +kernel)
theorem dX11_count_285 : decode cX11_count 285 = .ok (.getfield 101, 3) := dcw_180 (by decide +kernel)
theorem dX11_count_288 : decode cX11_count 288 = .ok (.iconst 5, 1) := dc1_8 (by decide +kernel)
theorem dX11_count_289 : decode cX11_count 289 = .ok (.iload_n 3, 1) := dc1_29 (by decide +kernel)
theorem dX11_count_290 : decode cX11_count 290 = .ok (.iadd, 1) := dc1_96 (by decide +kernel)
theorem dX11_count_291 : decode cX11_count 291 = .ok (.iaload, 1) := dc1_46 (by decide +kernel)
theorem dX11_count_292 : decode cX11_count 292 = .ok (.ifCond .lt 9, 3) := dcs_155 (n := 9) (by decide +kernel)
theorem dX11_count_295 : decode cX11_count 295 = .ok (.iload_n 2, 1) := dc1_28 (by decide +kernel)
theorem dX11_count_296 : decode cX11_count 296 = .ok (.iconst 1, 1) := dc1_4 (by decide +kernel)
theorem dX11_count_297 : decode cX11_count 297 = .ok (.iload_n 3, 1) := dc1_29 (by decide +kernel)
theorem dX11_count_298 : decode cX11_count 298 = .ok (.ishl, 1) := dc1_120 (by decide +kernel)
theorem dX11_count_299 : decode cX11_count 299 = .ok (.ior, 1) := dc1_128 (by decide +kernel)
theorem dX11_count_300 : decode cX11_count 300 = .ok (.istore_n 2, 1) := dc1_61 (by decide +kernel)
theorem dX11_count_301 : decode cX11_count 301 = .ok (.iinc 3 1, 3) := dc_iinc (m := 1) (by decide +kernel)
theorem dX11_count_304 : decode cX11_count 304 = .ok (.goto (-33), 3) := dcs_167 (n := 65503) (by decide +kernel)
theorem dX11_count_307 : decode cX11_count 307 = .ok (.iload_n 2, 1) := dc1_28 (by decide +kernel)
theorem dX11_count_308 : decode cX11_count 308 = .ok (.ireturn, 1) := dc1_172 (by decide +kernel)
theorem dX11_count_309 : decode cX11_count 309 = .ok (.aload_n 0, 1) := dc1_42 (by decide +kernel)
theorem dX11_count_310 : decode cX11_count 310 = .ok (.invokevirtual 285, 3) := dcw_182 (by decide +kernel)
theorem dX11_count_313 : decode cX11_count 313 = .ok (.ireturn, 1) := dc1_172 (by decide +kernel)
theorem dX11_count_314 : decode cX11_count 314 = .ok (.aload_n 0, 1) := dc1_42 (by decide +kernel)
theorem dX11_count_315 : decode cX11_count 315 = .ok (.invokevirtual 370, 3) := dcw_182 (by decide +kernel)
theorem dX11_count_318 : decode cX11_count 318 = .ok (.ireturn, 1) := dc1_172 (by decide +kernel)
theorem dX11_count_319 : decode cX11_count 319 = .ok (.aload_n 0, 1) := dc1_42 (by decide +kernel)
theorem dX11_count_320 : decode cX11_count 320 = .ok (.bipush 10, 2) := dcb_16 (n := 10) (by decide +kernel)
theorem dX11_count_322 : decode cX11_count 322 = .ok (.iconst 5, 1) := dc1_8 (by decide +kernel)
theorem dX11_count_323 : decode cX11_count 323 = .ok (.invokevirtual 434, 3) := dcw_182 (by decide +kernel)
theorem dX11_count_326 : decode cX11_count 326 = .ok (.ireturn, 1) := dc1_172 (by decide +kernel)
theorem dX11_count_327 : decode cX11_count 327 = .ok (.iconst 0, 1) := dc1_3 (by decide +kernel)
theorem dX11_count_328 : decode cX11_count 328 = .ok (.istore_n 3, 1) := dc1_62 (by decide +kernel)
theorem dX11_count_329 : decode cX11_count 329 = .ok (.iload_n 3, 1) := dc1_29 (by decide +kernel)
theorem dX11_count_330 : decode cX11_count 330 = .ok (.aload_n 0, 1) := dc1_42 (by decide +kernel)
theorem dX11_count_331 : decode cX11_count 331 = .ok (.getfield 40, 3) := dcw_180 (by decide +kernel)
theorem dX11_count_334 : decode cX11_count 334 = .ok (.aload_n 0, 1) := dc1_42 (by decide +kernel)
theorem dX11_count_335 : decode cX11_count 335 = .ok (.getfield 215, 3) := dcw_180 (by decide +kernel)
theorem dX11_count_338 : decode cX11_count 338 = .ok (.iaload, 1) := dc1_46 (by decide +kernel)
theorem dX11_count_339 : decode cX11_count 339 = .ok (.if_icmp .ge 23, 3) := dcs_162 (n := 23) (by decide +kernel)
theorem dX11_count_342 : decode cX11_count 342 = .ok (.aload_n 0, 1) := dc1_42 (by decide +kernel)
theorem dX11_count_343 : decode cX11_count 343 = .ok (.iload_n 3, 1) := dc1_29 (by decide +kernel)
theorem dX11_count_344 : decode cX11_count 344 = .ok (.invokevirtual 309, 3) := dcw_182 (by decide +kernel)
theorem dX11_count_347 : decode cX11_count 347 = .ok (.ifCond .ne 9, 3) := dcs_154 (n := 9) (by decide +kernel)
theorem dX11_count_350 : decode cX11_count 350 = .ok (.iload_n 2, 1) := dc1_28 (by decide +kernel)
theorem dX11_count_351 : decode cX11_count 351 = .ok (.iconst 1, 1) := dc1_4 (by decide +kernel)
theorem dX11_count_352 : decode cX11_count 352 = .ok (.iload_n 3, 1) := dc1_29 (by decide +kernel)
theorem dX11_count_353 : decode cX11_count 353 = .ok (.ishl, 1) := dc1_120 (by decide +kernel)
theorem dX11_count_354 : decode cX11_count 354 = .ok (.ior, 1) := dc1_128 (by decide +kernel)
theorem dX11_count_355 : decode cX11_count 355 = .ok (.istore_n 2, 1) := dc1_61 (by decide +kernel)
theorem dX11_count_356 : decode cX11_count 356 = .ok (.iinc 3 1, 3) := dc_iinc (m := 1) (by decide +kernel)
theorem dX11_count_359 : decode cX11_count 359 = .ok (.goto (-30), 3) := dcs_167 (n := 65506) (by decide +kernel)
theorem dX11_count_362 : decode cX11_count 362 = .ok (.iload_n 2, 1) := dc1_28 (by decide +kernel)
theorem dX11_count_363 : decode cX11_count 363 = .ok (.ireturn, 1) := dc1_172 (by decide +kernel)
theorem dX11_count_364 : decode cX11_count 364 = .ok (.iconst 0, 1) := dc1_3 (by decide +kernel)
theorem dX11_count_365 : decode cX11_count 365 = .ok (.istore_n 3, 1) := dc1_62 (by decide +kernel)
theorem dX11_count_366 : decode cX11_count 366 = .ok (.iload_n 3, 1) := dc1_29 (by decide +kernel)
theorem dX11_count_367 : decode cX11_count 367 = .ok (.aload_n 0, 1) := dc1_42 (by decide +kernel)
theorem dX11_count_368 : decode cX11_count 368 = .ok (.getfield 49, 3) := dcw_180 (by decide +kernel)
theorem dX11_count_371 : decode cX11_count 371 = .ok (.aload_n 0, 1) := dc1_42 (by decide +kernel)
theorem dX11_count_372 : decode cX11_count 372 = .ok (.getfield 215, 3) := dcw_180 (by decide +kernel)
theorem dX11_count_375 : decode cX11_count 375 = .ok (.iaload, 1) := dc1_46 (by decide +kernel)
theorem dX11_count_376 : decode cX11_count 376 = .ok (.if_icmp .ge 25, 3) := dcs_162 (n := 25) (by decide +kernel)
theorem dX11_count_379 : decode cX11_count 379 = .ok (.aload_n 0, 1) := dc1_42 (by decide +kernel)
theorem dX11_count_380 : decode cX11_count 380 = .ok (.iload_n 3, 1) := dc1_29 (by decide +kernel)
theorem dX11_count_381 : decode cX11_count 381 = .ok (.invokevirtual 364, 3) := dcw_182 (by decide +kernel)
theorem dX11_count_384 : decode cX11_count 384 = .ok (.ifCond .eq 11, 3) := dcs_153 (n := 11) (by decide +kernel)
theorem dX11_count_387 : decode cX11_count 387 = .ok (.iload_n 2, 1) := dc1_28 (by decide +kernel)
theorem dX11_count_388 : decode cX11_count 388 = .ok (.aload_n 0, 1) := dc1_42 (by decide +kernel)
theorem dX11_count_389 : decode cX11_count 389 = .ok (.iload_n 3, 1) := dc1_29 (by decide +kernel)
theorem dX11_count_390 : decode cX11_count 390 = .ok (.invokevirtual 339, 3) := dcw_182 (by decide +kernel)
theorem dX11_count_393 : decode cX11_count 393 = .ok (.iadd, 1) := dc1_96 (by decide +kernel)
theorem dX11_count_394 : decode cX11_count 394 = .ok (.istore_n 2, 1) := dc1_61 (by decide +kernel)
theorem dX11_count_395 : decode cX11_count 395 = .ok (.iinc 3 1, 3) := dc_iinc (m := 1) (by decide +kernel)
theorem dX11_count_398 : decode cX11_count 398 = .ok (.goto (-32), 3) := dcs_167 (n := 65504) (by decide +kernel)
theorem dX11_count_401 : decode cX11_count 401 = .ok (.iload_n 2, 1) := dc1_28 (by decide +kernel)
theorem dX11_count_402 : decode cX11_count 402 = .ok (.ireturn, 1) := dc1_172 (by decide +kernel)
theorem dX11_count_403 : decode cX11_count 403 = .ok (.iconst (-1), 1) := dc1_2 (by decide +kernel)
theorem dX11_count_404 : decode cX11_count 404 = .ok (.ireturn, 1) := dc1_172 (by decide +kernel)
theorem LX11_hold_128 : Cond.fieldLink RX11 128 "GuessFerryModel" "isHeld" "[Z" ∈ wsX11_hold := (List.mem_cons_of_mem _ (List.mem_append_left _ (List.mem_append_left _ (List.mem_of_getElem? (i := 0) rfl))))
theorem LX11_hold_131 : Cond.fieldLink RX11 131 "GuessFerryModel" "heldRows" "[I" ∈ wsX11_hold := (List.mem_cons_of_mem _ (List.mem_append_left _ (List.mem_append_left _ (List.mem_of_getElem? (i := 1) rfl))))
theorem LX11_hold_98 : Cond.fieldLink RX11 98 "GuessFerryModel" "now" "[I" ∈ wsX11_hold := (List.mem_cons_of_mem _ (List.mem_append_left _ (List.mem_append_left _ (List.mem_of_getElem? (i := 2) rfl))))
theorem inX11_hold_X11 : ∀ w ∈ u_ws RX11 TX11 58, w ∈ wsX11_hold := fun w h => (List.mem_cons_of_mem _ (List.mem_append_right _ h))
set_option maxHeartbeats 4000000 in
set_option maxRecDepth 100000 in
theorem br_hold_20 {l : Launch} {dC : Nat → ClassId} {dI : Nat → Nat → Nat} {cB cI cJ cZ cS : ClassId} {h : Nat} {a : Nat → Nat} {as : List Value} {r : Int32} {s' : RS} {k20 : RS → Int32 → Int32 → Option (Int32 × RS)} (hk20 : ∀ (s : RS) (x1 : Int32) (x2 : Int32), k20 s x1 x2 = some (r, s') → BlkI l yX11_hold wsX11_hold ({ frames := 1, cells := 0, slots := 0, locals := 22 }) cX11_hold 3 (some .boolean) (dC, dI) (tysA cB cI cJ cZ cS) as 20 (mwS cB cI cJ cZ h a s) [(0, .ref h), (1, .int x1), (2, .int x2)] [] (fun x u => x = r ∧ u = (mwS cB cI cJ cZ h a s'))) (s : RS) (x1 : Int32) (x2 : Int32) (hB : r_hold_20 k20 s x1 x2 = some (r, s')) : BlkI l yX11_hold wsX11_hold ({ frames := 1, cells := 0, slots := 0, locals := 22 }) cX11_hold 3 (some .boolean) (dC, dI) (tysA cB cI cJ cZ cS) as 20 (mwS cB cI cJ cZ h a s) [(0, .ref h), (1, .int x1), (2, .int x2)] [] (fun x u => x = r ∧ u = (mwS cB cI cJ cZ h a s')) := by
  intro p e s0 m below meth c A E H locs ls hP hD hS hl
  obtain ⟨C, hr, hlocks, hA, hK, hN⟩ := id E
  obtain ⟨hx, hb, hml, hown, hts⟩ := id C
  unfold r_hold_20 at hB
  refine lv_iload_n hx hb dX11_hold_20 rfl (lv_at hl 2 rfl) ?_
  refine lv_bipush (v := 29) hx hb dX11_hold_21 (by decide) ?_
  refine lv_icmp_ge (tgt := 49) hx hb dX11_hold_23 (by decide) (fun c1 => ?_) (fun c1 => ?_)
  · have hB := if_p hB c1
    refine lv_iconst (v := 1) hx hb dX11_hold_49 (by decide) ?_
    exact q_zret C hr hlocks (Or.inr rfl) hK hP hD hS (Nat.le_of_ble_eq_true rfl) (Nat.le_of_ble_eq_true rfl) dX11_hold_50 (by cases hB; exact ⟨rfl, rfl⟩)
  · have hB := if_n hB c1
    refine lv_aload_n hx hb dX11_hold_26 rfl (lv_at hl 0 rfl) ?_
    refine q_get (v := .ref (a 57)) C inX11_hold_X11 hK hP 0 rfl rfl 57 (by decide) rfl LX11_hold_131 rfl dX11_hold_27 ?_
    refine lv_bipush (v := 29) hx hb dX11_hold_30 (by decide) ?_
    refine lv_iload_n hx hb dX11_hold_32 rfl (lv_at hl 1 rfl) ?_
    refine lv_imul hx hb dX11_hold_33 ?_
    refine lv_iload_n hx hb dX11_hold_34 rfl (lv_at hl 2 rfl) ?_
    refine lv_iadd hx hb dX11_hold_35 ?_
    refine lv_aload_n hx hb dX11_hold_36 rfl (lv_at hl 0 rfl) ?_
    refine q_get (v := .ref (a 43)) C inX11_hold_X11 hK hP 0 rfl rfl 43 (by decide) rfl LX11_hold_98 rfl dX11_hold_37 ?_
    refine lv_iload_n hx hb dX11_hold_40 rfl (lv_at hl 2 rfl) ?_
    obtain ⟨g2, hB⟩ := guard_inv hB
    refine q_iald (x := (s.f 43 (Int32.toNatClampNeg x2))) C hK hP 27 1 rfl rfl (vpb_in g2) dX11_hold_41 rfl ?_
    obtain ⟨g3, hB⟩ := guard_inv hB
    obtain ⟨s4, hs5, hB⟩ := letS_inv hB
    refine q_iast (f2 := (upd (s.f 57) (Int32.toNatClampNeg ((29 * x1) + x2)) (s.f 43 (Int32.toNatClampNeg x2)))) (w2 := (mwS cB cI cJ cZ h a s4)) C hK hP hD hS 38 1 rfl rfl (vpb_in g3) dX11_hold_42 rfl (mwS_f57 hs5) (fun H locs hP hD hS => ?_)
    refine lv_iinc (v := (x2 + 1)) (lv' := [(2, .int (x2 + 1)), (0, .ref h), (1, .int x1)]) hx hb dX11_hold_43 hl (k := 2) rfl (rfl) (by decide) rfl (fun ls hl => ?_)
    refine lv_goto (tgt := 20) hx hb dX11_hold_46 (by decide) ?_
    exact hk20 _ _ _ hB p e s0 m below meth c A E H locs ls hP hD hS (lv_sub hl [1, 2, 0] rfl)
theorem br_hold_20L {l : Launch} {dC : Nat → ClassId} {dI : Nat → Nat → Nat} {cB cI cJ cZ cS : ClassId} {h : Nat} {a : Nat → Nat} {as : List Value} {r : Int32} {s' : RS} : ∀ (n : Nat) (s : RS) (x1 : Int32) (x2 : Int32), r_hold_20L n s x1 x2 = some (r, s') → BlkI l yX11_hold wsX11_hold ({ frames := 1, cells := 0, slots := 0, locals := 22 }) cX11_hold 3 (some .boolean) (dC, dI) (tysA cB cI cJ cZ cS) as 20 (mwS cB cI cJ cZ h a s) [(0, .ref h), (1, .int x1), (2, .int x2)] [] (fun x u => x = r ∧ u = (mwS cB cI cJ cZ h a s')) := by
  intro n
  induction n with
  | zero => intro s x1 x2 hB; exact none_ne hB
  | succ n ih => intro s x1 x2 hB; exact br_hold_20 ih _ _ _ hB
set_option maxHeartbeats 4000000 in
set_option maxRecDepth 100000 in
theorem br_hold {l : Launch} {dC : Nat → ClassId} {dI : Nat → Nat → Nat} {cB cI cJ cZ cS : ClassId} {h : Nat} {a : Nat → Nat} {as : List Value} {r : Int32} {s' : RS} (s : RS) (x1 : Int32) (hB : r_hold s x1 = some (r, s')) : BlkI l yX11_hold wsX11_hold ({ frames := 1, cells := 0, slots := 0, locals := 22 }) cX11_hold 3 (some .boolean) (dC, dI) (tysA cB cI cJ cZ cS) as 0 (mwS cB cI cJ cZ h a s) [(0, .ref h), (1, .int x1)] [] (fun x u => x = r ∧ u = (mwS cB cI cJ cZ h a s')) := by
  intro p e s0 m below meth c A E H locs ls hP hD hS hl
  obtain ⟨C, hr, hlocks, hA, hK, hN⟩ := id E
  obtain ⟨hx, hb, hml, hown, hts⟩ := id C
  unfold r_hold at hB
  refine lv_iload_n hx hb dX11_hold_0 rfl (lv_at hl 1 rfl) ?_
  refine lv_iconst (v := 0) hx hb dX11_hold_1 (by decide) ?_
  refine lv_iconst (v := 2) hx hb dX11_hold_2 (by decide) ?_
  obtain ⟨q_, hc, hB⟩ := bindP_inv hB
  refine q_goi0 (va_runS (As := [.int x1, .int 0, .int 2]) (rest := []) C (cr_in hc _) (va_cwS 3 hts gX11_hold_X11_in rfl rfl rfl (by decide +kernel) ⟨Nat.le_of_ble_eq_true rfl, Nat.le_of_ble_eq_true rfl⟩) (q_pre0 hN hK) rfl rfl hl.1 rfl (lv_room (Nat.le_of_ble_eq_true rfl)) dX11_hold_3 ⟨Nat.le_of_ble_eq_true rfl, Nat.le_of_ble_eq_true rfl⟩) hP hD hS hA (fun r1 w1 H locs hw hP hS => ?_)
  subst hw
  refine lv_if_ne (tgt := 11) hx hb dX11_hold_6 (by decide) (fun c2 => ?_) (fun c2 => ?_)
  · have hB := if_n hB c2
    refine lv_aload_n hx hb dX11_hold_11 rfl (lv_at hl 0 rfl) ?_
    refine q_get (v := .ref (a 56)) C inX11_hold_X11 hK hP 0 rfl rfl 56 (by decide) rfl LX11_hold_128 rfl dX11_hold_12 ?_
    refine lv_iload_n hx hb dX11_hold_15 rfl (lv_at hl 1 rfl) ?_
    refine lv_iconst (v := 1) hx hb dX11_hold_16 (by decide) ?_
    obtain ⟨g3, hB⟩ := guard_inv hB
    obtain ⟨s4, hs5, hB⟩ := letS_inv hB
    refine q_zast (f2 := (upd (s.f 56) (Int32.toNatClampNeg x1) (vp_nar .boolean 1))) (w2 := (mwS cB cI cJ cZ h a s4)) C hK hP hD hS 37 3 rfl rfl (vpb_in g3) dX11_hold_17 rfl (mwS_f56 hs5) (fun H locs hP hD hS => ?_)
    refine lv_iconst (v := 0) hx hb dX11_hold_18 (by decide) ?_
    refine lv_istore_n (lv' := [(2, .int 0), (0, .ref h), (1, .int x1)]) hx hb dX11_hold_19 rfl hl (by decide) rfl (fun ls hl => ?_)
    exact br_hold_20L fu _ _ _ hB p e s0 m below meth c A E H locs ls hP hD hS (lv_sub hl [1, 2, 0] rfl)
  · have hB := if_p hB c2
    refine lv_iconst (v := 0) hx hb dX11_hold_9 (by decide) ?_
    exact q_zret C hr hlocks (Or.inl rfl) hK hP hD hS (Nat.le_of_ble_eq_true rfl) (Nat.le_of_ble_eq_true rfl) dX11_hold_10 (by cases hB; exact ⟨rfl, rfl⟩)
theorem cr_hold {l : Launch} {dC : Nat → ClassId} {dI : Nat → Nat → Nat} {cB cI cJ cZ cS : ClassId} {h : Nat} {a : Nat → Nat} {r : Int32} {s' : RS} {s : RS} {x1 : Int32} (hB : r_hold s x1 = some (r, s')) : CI l yX11_hold wsX11_hold ({ frames := 1, cells := 0, slots := 0, locals := 22 }) (dC, dI) (tysA cB cI cJ cZ cS) (mwS cB cI cJ cZ h a s) [.ref h, .int x1] (fun x u => x = r ∧ u = (mwS cB cI cJ cZ h a s')) :=
  CI_of (cc := cX11_hold) (maxL := 3) (ret := (some .boolean)) (by decide) rfl (Nat.le_of_ble_eq_true rfl) (br_hold _ _ hB)
theorem LX11_restore_128 : Cond.fieldLink RX11 128 "GuessFerryModel" "isHeld" "[Z" ∈ wsX11_restore := (List.mem_cons_of_mem _ (List.mem_append_left _ (List.mem_append_left _ (List.mem_of_getElem? (i := 0) rfl))))
theorem LX11_restore_131 : Cond.fieldLink RX11 131 "GuessFerryModel" "heldRows" "[I" ∈ wsX11_restore := (List.mem_cons_of_mem _ (List.mem_append_left _ (List.mem_append_left _ (List.mem_of_getElem? (i := 2) rfl))))
theorem LX11_restore_230 : Cond.fieldLink RX11 230 "GuessFerryModel" "undos" "I" ∈ wsX11_restore := (List.mem_cons_of_mem _ (List.mem_append_left _ (List.mem_append_left _ (List.mem_of_getElem? (i := 3) rfl))))
theorem LX11_restore_98 : Cond.fieldLink RX11 98 "GuessFerryModel" "now" "[I" ∈ wsX11_restore := (List.mem_cons_of_mem _ (List.mem_append_left _ (List.mem_append_left _ (List.mem_of_getElem? (i := 1) rfl))))
theorem inX11_restore_X11 : ∀ w ∈ u_ws RX11 TX11 58, w ∈ wsX11_restore := fun w h => (List.mem_cons_of_mem _ (List.mem_append_right _ h))
set_option maxHeartbeats 4000000 in
set_option maxRecDepth 100000 in
theorem br_restore_22 {l : Launch} {dC : Nat → ClassId} {dI : Nat → Nat → Nat} {cB cI cJ cZ cS : ClassId} {h : Nat} {a : Nat → Nat} {as : List Value} {r : Int32} {s' : RS} {k22 : RS → Int32 → Int32 → Option (Int32 × RS)} (hk22 : ∀ (s : RS) (x1 : Int32) (x2 : Int32), k22 s x1 x2 = some (r, s') → BlkI l yX11_restore wsX11_restore ({ frames := 1, cells := 0, slots := 0, locals := 22 }) cX11_restore 3 (some .boolean) (dC, dI) (tysA cB cI cJ cZ cS) as 22 (mwS cB cI cJ cZ h a s) [(0, .ref h), (1, .int x1), (2, .int x2)] [] (fun x u => x = r ∧ u = (mwS cB cI cJ cZ h a s'))) (s : RS) (x1 : Int32) (x2 : Int32) (hB : r_restore_22 k22 s x1 x2 = some (r, s')) : BlkI l yX11_restore wsX11_restore ({ frames := 1, cells := 0, slots := 0, locals := 22 }) cX11_restore 3 (some .boolean) (dC, dI) (tysA cB cI cJ cZ cS) as 22 (mwS cB cI cJ cZ h a s) [(0, .ref h), (1, .int x1), (2, .int x2)] [] (fun x u => x = r ∧ u = (mwS cB cI cJ cZ h a s')) := by
  intro p e s0 m below meth c A E H locs ls hP hD hS hl
  obtain ⟨C, hr, hlocks, hA, hK, hN⟩ := id E
  obtain ⟨hx, hb, hml, hown, hts⟩ := id C
  unfold r_restore_22 at hB
  refine lv_iload_n hx hb dX11_restore_22 rfl (lv_at hl 2 rfl) ?_
  refine lv_bipush (v := 29) hx hb dX11_restore_23 (by decide) ?_
  refine lv_icmp_ge (tgt := 51) hx hb dX11_restore_25 (by decide) (fun c1 => ?_) (fun c1 => ?_)
  · have hB := if_p hB c1
    refine lv_aload_n hx hb dX11_restore_51 rfl (lv_at hl 0 rfl) ?_
    refine lv_iconst (v := 0) hx hb dX11_restore_52 (by decide) ?_
    obtain ⟨s2, hs3, hB⟩ := letS_inv hB
    refine q_put (ty := .int) (w2 := (mwS cB cI cJ cZ h a s2)) tyX11 tyX11_ok nmX11 C inX11_restore_X11 hK hP hD hS 0 rfl rfl 48 (by decide) rfl LX11_restore_230 rfl (by decide +kernel) (rfl) rfl (Nat.le_of_ble_eq_true rfl) dX11_restore_53 (mwS_v48 hs3) (fun H locs hP hD hS => ?_)
    refine lv_iconst (v := 1) hx hb dX11_restore_56 (by decide) ?_
    exact q_zret C hr hlocks (Or.inr rfl) hK hP hD hS (Nat.le_of_ble_eq_true rfl) (Nat.le_of_ble_eq_true rfl) dX11_restore_57 (by cases hB; exact ⟨rfl, rfl⟩)
  · have hB := if_n hB c1
    refine lv_aload_n hx hb dX11_restore_28 rfl (lv_at hl 0 rfl) ?_
    refine q_get (v := .ref (a 43)) C inX11_restore_X11 hK hP 0 rfl rfl 43 (by decide) rfl LX11_restore_98 rfl dX11_restore_29 ?_
    refine lv_iload_n hx hb dX11_restore_32 rfl (lv_at hl 2 rfl) ?_
    refine lv_aload_n hx hb dX11_restore_33 rfl (lv_at hl 0 rfl) ?_
    refine q_get (v := .ref (a 57)) C inX11_restore_X11 hK hP 0 rfl rfl 57 (by decide) rfl LX11_restore_131 rfl dX11_restore_34 ?_
    refine lv_bipush (v := 29) hx hb dX11_restore_37 (by decide) ?_
    refine lv_iload_n hx hb dX11_restore_39 rfl (lv_at hl 1 rfl) ?_
    refine lv_imul hx hb dX11_restore_40 ?_
    refine lv_iload_n hx hb dX11_restore_41 rfl (lv_at hl 2 rfl) ?_
    refine lv_iadd hx hb dX11_restore_42 ?_
    obtain ⟨g4, hB⟩ := guard_inv hB
    refine q_iald (x := (s.f 57 (Int32.toNatClampNeg ((29 * x1) + x2)))) C hK hP 38 1 rfl rfl (vpb_in g4) dX11_restore_43 rfl ?_
    obtain ⟨g5, hB⟩ := guard_inv hB
    obtain ⟨s6, hs7, hB⟩ := letS_inv hB
    refine q_iast (f2 := (upd (s.f 43) (Int32.toNatClampNeg x2) (s.f 57 (Int32.toNatClampNeg ((29 * x1) + x2))))) (w2 := (mwS cB cI cJ cZ h a s6)) C hK hP hD hS 27 1 rfl rfl (vpb_in g5) dX11_restore_44 rfl (mwS_f43 hs7) (fun H locs hP hD hS => ?_)
    refine lv_iinc (v := (x2 + 1)) (lv' := [(2, .int (x2 + 1)), (0, .ref h), (1, .int x1)]) hx hb dX11_restore_45 hl (k := 2) rfl (rfl) (by decide) rfl (fun ls hl => ?_)
    refine lv_goto (tgt := 22) hx hb dX11_restore_48 (by decide) ?_
    exact hk22 _ _ _ hB p e s0 m below meth c A E H locs ls hP hD hS (lv_sub hl [1, 2, 0] rfl)
theorem br_restore_22L {l : Launch} {dC : Nat → ClassId} {dI : Nat → Nat → Nat} {cB cI cJ cZ cS : ClassId} {h : Nat} {a : Nat → Nat} {as : List Value} {r : Int32} {s' : RS} : ∀ (n : Nat) (s : RS) (x1 : Int32) (x2 : Int32), r_restore_22L n s x1 x2 = some (r, s') → BlkI l yX11_restore wsX11_restore ({ frames := 1, cells := 0, slots := 0, locals := 22 }) cX11_restore 3 (some .boolean) (dC, dI) (tysA cB cI cJ cZ cS) as 22 (mwS cB cI cJ cZ h a s) [(0, .ref h), (1, .int x1), (2, .int x2)] [] (fun x u => x = r ∧ u = (mwS cB cI cJ cZ h a s')) := by
  intro n
  induction n with
  | zero => intro s x1 x2 hB; exact none_ne hB
  | succ n ih => intro s x1 x2 hB; exact br_restore_22 ih _ _ _ hB
set_option maxHeartbeats 4000000 in
set_option maxRecDepth 100000 in
theorem br_restore {l : Launch} {dC : Nat → ClassId} {dI : Nat → Nat → Nat} {cB cI cJ cZ cS : ClassId} {h : Nat} {a : Nat → Nat} {as : List Value} {r : Int32} {s' : RS} (s : RS) (x1 : Int32) (hB : r_restore s x1 = some (r, s')) : BlkI l yX11_restore wsX11_restore ({ frames := 1, cells := 0, slots := 0, locals := 22 }) cX11_restore 3 (some .boolean) (dC, dI) (tysA cB cI cJ cZ cS) as 0 (mwS cB cI cJ cZ h a s) [(0, .ref h), (1, .int x1)] [] (fun x u => x = r ∧ u = (mwS cB cI cJ cZ h a s')) := by
  intro p e s0 m below meth c A E H locs ls hP hD hS hl
  obtain ⟨C, hr, hlocks, hA, hK, hN⟩ := id E
  obtain ⟨hx, hb, hml, hown, hts⟩ := id C
  unfold r_restore at hB
  refine lv_iload_n hx hb dX11_restore_0 rfl (lv_at hl 1 rfl) ?_
  refine lv_iconst (v := 0) hx hb dX11_restore_1 (by decide) ?_
  refine lv_iconst (v := 2) hx hb dX11_restore_2 (by decide) ?_
  obtain ⟨q_, hc, hB⟩ := bindP_inv hB
  refine q_goi0 (va_runS (As := [.int x1, .int 0, .int 2]) (rest := []) C (cr_in hc _) (va_cwS 3 hts gX11_restore_X11_in rfl rfl rfl (by decide +kernel) ⟨Nat.le_of_ble_eq_true rfl, Nat.le_of_ble_eq_true rfl⟩) (q_pre0 hN hK) rfl rfl hl.1 rfl (lv_room (Nat.le_of_ble_eq_true rfl)) dX11_restore_3 ⟨Nat.le_of_ble_eq_true rfl, Nat.le_of_ble_eq_true rfl⟩) hP hD hS hA (fun r1 w1 H locs hw hP hS => ?_)
  subst hw
  refine lv_if_eq (tgt := 18) hx hb dX11_restore_6 (by decide) (fun c2 => ?_) (fun c2 => ?_)
  · have hB := if_p hB c2
    refine lv_iconst (v := 0) hx hb dX11_restore_18 (by decide) ?_
    exact q_zret C hr hlocks (Or.inl rfl) hK hP hD hS (Nat.le_of_ble_eq_true rfl) (Nat.le_of_ble_eq_true rfl) dX11_restore_19 (by cases hB; exact ⟨rfl, rfl⟩)
  · have hB := if_n hB c2
    refine lv_aload_n hx hb dX11_restore_9 rfl (lv_at hl 0 rfl) ?_
    refine q_get (v := .ref (a 56)) C inX11_restore_X11 hK hP 0 rfl rfl 56 (by decide) rfl LX11_restore_128 rfl dX11_restore_10 ?_
    refine lv_iload_n hx hb dX11_restore_13 rfl (lv_at hl 1 rfl) ?_
    obtain ⟨g3, hB⟩ := guard_inv hB
    refine q_zald (x := (s.f 56 (Int32.toNatClampNeg x1))) C hK hP 37 3 rfl rfl (vpb_in g3) dX11_restore_14 rfl ?_
    refine lv_if_ne (tgt := 20) hx hb dX11_restore_15 (by decide) (fun c4 => ?_) (fun c4 => ?_)
    · have hB := if_n hB c4
      refine lv_iconst (v := 0) hx hb dX11_restore_20 (by decide) ?_
      refine lv_istore_n (lv' := [(2, .int 0), (0, .ref h), (1, .int x1)]) hx hb dX11_restore_21 rfl hl (by decide) rfl (fun ls hl => ?_)
      exact br_restore_22L fu _ _ _ hB p e s0 m below meth c A E H locs ls hP hD hS (lv_sub hl [1, 2, 0] rfl)
    · have hB := if_p hB c4
      refine lv_iconst (v := 0) hx hb dX11_restore_18 (by decide) ?_
      exact q_zret C hr hlocks (Or.inl rfl) hK hP hD hS (Nat.le_of_ble_eq_true rfl) (Nat.le_of_ble_eq_true rfl) dX11_restore_19 (by cases hB; exact ⟨rfl, rfl⟩)
theorem cr_restore {l : Launch} {dC : Nat → ClassId} {dI : Nat → Nat → Nat} {cB cI cJ cZ cS : ClassId} {h : Nat} {a : Nat → Nat} {r : Int32} {s' : RS} {s : RS} {x1 : Int32} (hB : r_restore s x1 = some (r, s')) : CI l yX11_restore wsX11_restore ({ frames := 1, cells := 0, slots := 0, locals := 22 }) (dC, dI) (tysA cB cI cJ cZ cS) (mwS cB cI cJ cZ h a s) [.ref h, .int x1] (fun x u => x = r ∧ u = (mwS cB cI cJ cZ h a s')) :=
  CI_of (cc := cX11_restore) (maxL := 3) (ret := (some .boolean)) (by decide) rfl (Nat.le_of_ble_eq_true rfl) (br_restore _ _ hB)
theorem LX11_partiesIn_101 : Cond.fieldLink RX11 101 "GuessFerryModel" "row" "[I" ∈ wsX11_partiesIn := (List.mem_cons_of_mem _ (List.mem_append_left _ (List.mem_of_getElem? (i := 2) rfl)))
theorem LX11_partiesIn_215 : Cond.fieldLink RX11 215 "GuessFerryModel" "live" "I" ∈ wsX11_partiesIn := (List.mem_cons_of_mem _ (List.mem_append_left _ (List.mem_of_getElem? (i := 1) rfl)))
theorem LX11_partiesIn_49 : Cond.fieldLink RX11 49 "GuessFerryModel" "parties" "[I" ∈ wsX11_partiesIn := (List.mem_cons_of_mem _ (List.mem_append_left _ (List.mem_of_getElem? (i := 0) rfl)))
theorem inX11_partiesIn_X11 : ∀ w ∈ u_ws RX11 TX11 58, w ∈ wsX11_partiesIn := fun _ h => List.mem_cons_of_mem _ (List.mem_append_right _ h)
set_option maxHeartbeats 4000000 in
set_option maxRecDepth 100000 in
theorem br_partiesIn_36 {l : Launch} {dC : Nat → ClassId} {dI : Nat → Nat → Nat} {cB cI cJ cZ cS : ClassId} {h : Nat} {a : Nat → Nat} {as : List Value} {r : Int32} {s' : RS} {k4 : RS → Int32 → Int32 → Int32 → Option (Int32 × RS)} (hk4 : ∀ (s : RS) (x1 : Int32) (x2 : Int32) (x3 : Int32), k4 s x1 x2 x3 = some (r, s') → BlkI l yX11_partiesIn wsX11_partiesIn ({ frames := 0, cells := 0, slots := 0, locals := 0 }) cX11_partiesIn 4 (some .int) (dC, dI) (tysA cB cI cJ cZ cS) as 4 (mwS cB cI cJ cZ h a s) [(0, .ref h), (1, .int x1), (2, .int x2), (3, .int x3)] [] (fun x u => x = r ∧ u = (mwS cB cI cJ cZ h a s'))) (s : RS) (x1 : Int32) (x2 : Int32) (x3 : Int32) (hB : r_partiesIn_36 k4 s x1 x2 x3 = some (r, s')) : BlkI l yX11_partiesIn wsX11_partiesIn ({ frames := 0, cells := 0, slots := 0, locals := 0 }) cX11_partiesIn 4 (some .int) (dC, dI) (tysA cB cI cJ cZ cS) as 36 (mwS cB cI cJ cZ h a s) [(0, .ref h), (1, .int x1), (2, .int x2), (3, .int x3)] [] (fun x u => x = r ∧ u = (mwS cB cI cJ cZ h a s')) := by
  intro p e s0 m below meth c A E H locs ls hP hD hS hl
  obtain ⟨C, hr, hlocks, hA, hK, hN⟩ := id E
  obtain ⟨hx, hb, hml, hown, hts⟩ := id C
  unfold r_partiesIn_36 at hB
  refine lv_iinc (v := (x3 + 1)) (lv' := [(3, .int (x3 + 1)), (0, .ref h), (1, .int x1), (2, .int x2)]) hx hb dX11_partiesIn_36 hl (k := 3) rfl (rfl) (by decide) rfl (fun ls hl => ?_)
  refine lv_goto (tgt := 4) hx hb dX11_partiesIn_39 (by decide) ?_
  exact hk4 _ _ _ _ hB p e s0 m below meth c A E H locs ls hP hD hS (lv_sub hl [1, 2, 3, 0] rfl)
set_option maxHeartbeats 4000000 in
set_option maxRecDepth 100000 in
theorem br_partiesIn_4 {l : Launch} {dC : Nat → ClassId} {dI : Nat → Nat → Nat} {cB cI cJ cZ cS : ClassId} {h : Nat} {a : Nat → Nat} {as : List Value} {r : Int32} {s' : RS} {k4 : RS → Int32 → Int32 → Int32 → Option (Int32 × RS)} (hk4 : ∀ (s : RS) (x1 : Int32) (x2 : Int32) (x3 : Int32), k4 s x1 x2 x3 = some (r, s') → BlkI l yX11_partiesIn wsX11_partiesIn ({ frames := 0, cells := 0, slots := 0, locals := 0 }) cX11_partiesIn 4 (some .int) (dC, dI) (tysA cB cI cJ cZ cS) as 4 (mwS cB cI cJ cZ h a s) [(0, .ref h), (1, .int x1), (2, .int x2), (3, .int x3)] [] (fun x u => x = r ∧ u = (mwS cB cI cJ cZ h a s'))) (s : RS) (x1 : Int32) (x2 : Int32) (x3 : Int32) (hB : r_partiesIn_4 k4 s x1 x2 x3 = some (r, s')) : BlkI l yX11_partiesIn wsX11_partiesIn ({ frames := 0, cells := 0, slots := 0, locals := 0 }) cX11_partiesIn 4 (some .int) (dC, dI) (tysA cB cI cJ cZ cS) as 4 (mwS cB cI cJ cZ h a s) [(0, .ref h), (1, .int x1), (2, .int x2), (3, .int x3)] [] (fun x u => x = r ∧ u = (mwS cB cI cJ cZ h a s')) := by
  intro p e s0 m below meth c A E H locs ls hP hD hS hl
  obtain ⟨C, hr, hlocks, hA, hK, hN⟩ := id E
  obtain ⟨hx, hb, hml, hown, hts⟩ := id C
  unfold r_partiesIn_4 at hB
  refine lv_iload_n hx hb dX11_partiesIn_4 rfl (lv_at hl 3 rfl) ?_
  refine lv_aload_n hx hb dX11_partiesIn_5 rfl (lv_at hl 0 rfl) ?_
  refine q_get (v := .ref (a 23)) C inX11_partiesIn_X11 hK hP 0 rfl rfl 23 (by decide) rfl LX11_partiesIn_49 rfl dX11_partiesIn_6 ?_
  refine lv_aload_n hx hb dX11_partiesIn_9 rfl (lv_at hl 0 rfl) ?_
  refine q_get (v := .int (s.v 18)) C inX11_partiesIn_X11 hK hP 0 rfl rfl 18 (by decide) rfl LX11_partiesIn_215 rfl dX11_partiesIn_10 ?_
  obtain ⟨g1, hB⟩ := guard_inv hB
  refine q_iald (x := (s.f 23 (Int32.toNatClampNeg (s.v 18)))) C hK hP 11 1 rfl rfl (vpb_in g1) dX11_partiesIn_13 rfl ?_
  refine lv_icmp_ge (tgt := 42) hx hb dX11_partiesIn_14 (by decide) (fun c2 => ?_) (fun c2 => ?_)
  · have hB := if_p hB c2
    refine lv_iload_n hx hb dX11_partiesIn_42 rfl (lv_at hl 2 rfl) ?_
    exact q_iret C hr hlocks hK hP hD hS (Nat.le_of_ble_eq_true rfl) (Nat.le_of_ble_eq_true rfl) dX11_partiesIn_43 (by cases hB; exact ⟨rfl, rfl⟩)
  · have hB := if_n hB c2
    refine lv_aload_n hx hb dX11_partiesIn_17 rfl (lv_at hl 0 rfl) ?_
    refine q_get (v := .ref (a 44)) C inX11_partiesIn_X11 hK hP 0 rfl rfl 44 (by decide) rfl LX11_partiesIn_101 rfl dX11_partiesIn_18 ?_
    refine lv_bipush (v := 15) hx hb dX11_partiesIn_21 (by decide) ?_
    refine lv_iload_n hx hb dX11_partiesIn_23 rfl (lv_at hl 3 rfl) ?_
    refine lv_iadd hx hb dX11_partiesIn_24 ?_
    obtain ⟨g3, hB⟩ := guard_inv hB
    refine q_iald (x := (s.f 44 (Int32.toNatClampNeg (15 + x3)))) C hK hP 28 1 rfl rfl (vpb_in g3) dX11_partiesIn_25 rfl ?_
    refine lv_iload_n hx hb dX11_partiesIn_26 rfl (lv_at hl 1 rfl) ?_
    refine lv_icmp_ne (tgt := 36) hx hb dX11_partiesIn_27 (by decide) (fun c4 => ?_) (fun c4 => ?_)
    · have hB := if_n hB c4
      exact br_partiesIn_36 (hk4) _ _ _ _ hB p e s0 m below meth c A E H locs ls hP hD hS (lv_sub hl [0, 1, 2, 3] rfl)
    · have hB := if_p hB c4
      refine lv_iload_n hx hb dX11_partiesIn_30 rfl (lv_at hl 2 rfl) ?_
      refine lv_iconst (v := 1) hx hb dX11_partiesIn_31 (by decide) ?_
      refine lv_iload_n hx hb dX11_partiesIn_32 rfl (lv_at hl 3 rfl) ?_
      refine lv_ishl hx hb dX11_partiesIn_33 ?_
      refine lv_ior hx hb dX11_partiesIn_34 ?_
      refine lv_istore_n (lv' := [(2, .int (x2 ||| (1 <<< (x3 &&& 31)))), (0, .ref h), (1, .int x1), (3, .int x3)]) hx hb dX11_partiesIn_35 rfl hl (by decide) rfl (fun ls hl => ?_)
      exact br_partiesIn_36 (hk4) _ _ _ _ hB p e s0 m below meth c A E H locs ls hP hD hS (lv_sub hl [1, 2, 0, 3] rfl)
theorem br_partiesIn_4L {l : Launch} {dC : Nat → ClassId} {dI : Nat → Nat → Nat} {cB cI cJ cZ cS : ClassId} {h : Nat} {a : Nat → Nat} {as : List Value} {r : Int32} {s' : RS} : ∀ (n : Nat) (s : RS) (x1 : Int32) (x2 : Int32) (x3 : Int32), r_partiesIn_4L n s x1 x2 x3 = some (r, s') → BlkI l yX11_partiesIn wsX11_partiesIn ({ frames := 0, cells := 0, slots := 0, locals := 0 }) cX11_partiesIn 4 (some .int) (dC, dI) (tysA cB cI cJ cZ cS) as 4 (mwS cB cI cJ cZ h a s) [(0, .ref h), (1, .int x1), (2, .int x2), (3, .int x3)] [] (fun x u => x = r ∧ u = (mwS cB cI cJ cZ h a s')) := by
  intro n
  induction n with
  | zero => intro s x1 x2 x3 hB; exact none_ne hB
  | succ n ih => intro s x1 x2 x3 hB; exact br_partiesIn_4 ih _ _ _ _ hB
set_option maxHeartbeats 4000000 in
set_option maxRecDepth 100000 in
theorem br_partiesIn {l : Launch} {dC : Nat → ClassId} {dI : Nat → Nat → Nat} {cB cI cJ cZ cS : ClassId} {h : Nat} {a : Nat → Nat} {as : List Value} {r : Int32} {s' : RS} (s : RS) (x1 : Int32) (hB : r_partiesIn s x1 = some (r, s')) : BlkI l yX11_partiesIn wsX11_partiesIn ({ frames := 0, cells := 0, slots := 0, locals := 0 }) cX11_partiesIn 4 (some .int) (dC, dI) (tysA cB cI cJ cZ cS) as 0 (mwS cB cI cJ cZ h a s) [(0, .ref h), (1, .int x1)] [] (fun x u => x = r ∧ u = (mwS cB cI cJ cZ h a s')) := by
  intro p e s0 m below meth c A E H locs ls hP hD hS hl
  obtain ⟨C, hr, hlocks, hA, hK, hN⟩ := id E
  obtain ⟨hx, hb, hml, hown, hts⟩ := id C
  unfold r_partiesIn at hB
  refine lv_iconst (v := 0) hx hb dX11_partiesIn_0 (by decide) ?_
  refine lv_istore_n (lv' := [(2, .int 0), (0, .ref h), (1, .int x1)]) hx hb dX11_partiesIn_1 rfl hl (by decide) rfl (fun ls hl => ?_)
  refine lv_iconst (v := 0) hx hb dX11_partiesIn_2 (by decide) ?_
  refine lv_istore_n (lv' := [(3, .int 0), (2, .int 0), (0, .ref h), (1, .int x1)]) hx hb dX11_partiesIn_3 rfl hl (by decide) rfl (fun ls hl => ?_)
  exact br_partiesIn_4L fu _ _ _ _ hB p e s0 m below meth c A E H locs ls hP hD hS (lv_sub hl [2, 3, 1, 0] rfl)
theorem cr_partiesIn {l : Launch} {dC : Nat → ClassId} {dI : Nat → Nat → Nat} {cB cI cJ cZ cS : ClassId} {h : Nat} {a : Nat → Nat} {r : Int32} {s' : RS} {s : RS} {x1 : Int32} (hB : r_partiesIn s x1 = some (r, s')) : CI l yX11_partiesIn wsX11_partiesIn ({ frames := 0, cells := 0, slots := 0, locals := 0 }) (dC, dI) (tysA cB cI cJ cZ cS) (mwS cB cI cJ cZ h a s) [.ref h, .int x1] (fun x u => x = r ∧ u = (mwS cB cI cJ cZ h a s')) :=
  CI_of (cc := cX11_partiesIn) (maxL := 4) (ret := (some .int)) (by decide) rfl (Nat.le_of_ble_eq_true rfl) (br_partiesIn _ _ hB)
theorem LX11_sumNow_98 : Cond.fieldLink RX11 98 "GuessFerryModel" "now" "[I" ∈ wsX11_sumNow := (List.mem_cons_of_mem _ (List.mem_append_left _ (List.mem_of_getElem? (i := 0) rfl)))
theorem inX11_sumNow_X11 : ∀ w ∈ u_ws RX11 TX11 58, w ∈ wsX11_sumNow := fun _ h => List.mem_cons_of_mem _ (List.mem_append_right _ h)
set_option maxHeartbeats 4000000 in
set_option maxRecDepth 100000 in
theorem br_sumNow_5 {l : Launch} {dC : Nat → ClassId} {dI : Nat → Nat → Nat} {cB cI cJ cZ cS : ClassId} {h : Nat} {a : Nat → Nat} {as : List Value} {r : Int32} {s' : RS} {k5 : RS → Int32 → Int32 → Int32 → Int32 → Option (Int32 × RS)} (hk5 : ∀ (s : RS) (x1 : Int32) (x2 : Int32) (x3 : Int32) (x4 : Int32), k5 s x1 x2 x3 x4 = some (r, s') → BlkI l yX11_sumNow wsX11_sumNow ({ frames := 0, cells := 0, slots := 0, locals := 0 }) cX11_sumNow 5 (some .int) (dC, dI) (tysA cB cI cJ cZ cS) as 5 (mwS cB cI cJ cZ h a s) [(0, .ref h), (1, .int x1), (2, .int x2), (3, .int x3), (4, .int x4)] [] (fun x u => x = r ∧ u = (mwS cB cI cJ cZ h a s'))) (s : RS) (x1 : Int32) (x2 : Int32) (x3 : Int32) (x4 : Int32) (hB : r_sumNow_5 k5 s x1 x2 x3 x4 = some (r, s')) : BlkI l yX11_sumNow wsX11_sumNow ({ frames := 0, cells := 0, slots := 0, locals := 0 }) cX11_sumNow 5 (some .int) (dC, dI) (tysA cB cI cJ cZ cS) as 5 (mwS cB cI cJ cZ h a s) [(0, .ref h), (1, .int x1), (2, .int x2), (3, .int x3), (4, .int x4)] [] (fun x u => x = r ∧ u = (mwS cB cI cJ cZ h a s')) := by
  intro p e s0 m below meth c A E H locs ls hP hD hS hl
  obtain ⟨C, hr, hlocks, hA, hK, hN⟩ := id E
  obtain ⟨hx, hb, hml, hown, hts⟩ := id C
  unfold r_sumNow_5 at hB
  refine lv_iload hx hb dX11_sumNow_5 (lv_at hl 4 rfl) ?_
  refine lv_iload_n hx hb dX11_sumNow_7 rfl (lv_at hl 1 rfl) ?_
  refine lv_iload_n hx hb dX11_sumNow_8 rfl (lv_at hl 2 rfl) ?_
  refine lv_iadd hx hb dX11_sumNow_9 ?_
  refine lv_icmp_ge (tgt := 29) hx hb dX11_sumNow_10 (by decide) (fun c1 => ?_) (fun c1 => ?_)
  · have hB := if_p hB c1
    refine lv_iload_n hx hb dX11_sumNow_29 rfl (lv_at hl 3 rfl) ?_
    exact q_iret C hr hlocks hK hP hD hS (Nat.le_of_ble_eq_true rfl) (Nat.le_of_ble_eq_true rfl) dX11_sumNow_30 (by cases hB; exact ⟨rfl, rfl⟩)
  · have hB := if_n hB c1
    refine lv_iload_n hx hb dX11_sumNow_13 rfl (lv_at hl 3 rfl) ?_
    refine lv_aload_n hx hb dX11_sumNow_14 rfl (lv_at hl 0 rfl) ?_
    refine q_get (v := .ref (a 43)) C inX11_sumNow_X11 hK hP 0 rfl rfl 43 (by decide) rfl LX11_sumNow_98 rfl dX11_sumNow_15 ?_
    refine lv_iload hx hb dX11_sumNow_18 (lv_at hl 4 rfl) ?_
    obtain ⟨g2, hB⟩ := guard_inv hB
    refine q_iald (x := (s.f 43 (Int32.toNatClampNeg x4))) C hK hP 27 1 rfl rfl (vpb_in g2) dX11_sumNow_20 rfl ?_
    refine lv_iadd hx hb dX11_sumNow_21 ?_
    refine lv_istore_n (lv' := [(3, .int (x3 + (s.f 43 (Int32.toNatClampNeg x4)))), (0, .ref h), (1, .int x1), (2, .int x2), (4, .int x4)]) hx hb dX11_sumNow_22 rfl hl (by decide) rfl (fun ls hl => ?_)
    refine lv_iinc (v := (x4 + 1)) (lv' := [(4, .int (x4 + 1)), (3, .int (x3 + (s.f 43 (Int32.toNatClampNeg x4)))), (0, .ref h), (1, .int x1), (2, .int x2)]) hx hb dX11_sumNow_23 hl (k := 4) rfl (rfl) (by decide) rfl (fun ls hl => ?_)
    refine lv_goto (tgt := 5) hx hb dX11_sumNow_26 (by decide) ?_
    exact hk5 _ _ _ _ _ hB p e s0 m below meth c A E H locs ls hP hD hS (lv_sub hl [2, 3, 4, 1, 0] rfl)
theorem br_sumNow_5L {l : Launch} {dC : Nat → ClassId} {dI : Nat → Nat → Nat} {cB cI cJ cZ cS : ClassId} {h : Nat} {a : Nat → Nat} {as : List Value} {r : Int32} {s' : RS} : ∀ (n : Nat) (s : RS) (x1 : Int32) (x2 : Int32) (x3 : Int32) (x4 : Int32), r_sumNow_5L n s x1 x2 x3 x4 = some (r, s') → BlkI l yX11_sumNow wsX11_sumNow ({ frames := 0, cells := 0, slots := 0, locals := 0 }) cX11_sumNow 5 (some .int) (dC, dI) (tysA cB cI cJ cZ cS) as 5 (mwS cB cI cJ cZ h a s) [(0, .ref h), (1, .int x1), (2, .int x2), (3, .int x3), (4, .int x4)] [] (fun x u => x = r ∧ u = (mwS cB cI cJ cZ h a s')) := by
  intro n
  induction n with
  | zero => intro s x1 x2 x3 x4 hB; exact none_ne hB
  | succ n ih => intro s x1 x2 x3 x4 hB; exact br_sumNow_5 ih _ _ _ _ _ hB
set_option maxHeartbeats 4000000 in
set_option maxRecDepth 100000 in
theorem br_sumNow {l : Launch} {dC : Nat → ClassId} {dI : Nat → Nat → Nat} {cB cI cJ cZ cS : ClassId} {h : Nat} {a : Nat → Nat} {as : List Value} {r : Int32} {s' : RS} (s : RS) (x1 : Int32) (x2 : Int32) (hB : r_sumNow s x1 x2 = some (r, s')) : BlkI l yX11_sumNow wsX11_sumNow ({ frames := 0, cells := 0, slots := 0, locals := 0 }) cX11_sumNow 5 (some .int) (dC, dI) (tysA cB cI cJ cZ cS) as 0 (mwS cB cI cJ cZ h a s) [(0, .ref h), (1, .int x1), (2, .int x2)] [] (fun x u => x = r ∧ u = (mwS cB cI cJ cZ h a s')) := by
  intro p e s0 m below meth c A E H locs ls hP hD hS hl
  obtain ⟨C, hr, hlocks, hA, hK, hN⟩ := id E
  obtain ⟨hx, hb, hml, hown, hts⟩ := id C
  unfold r_sumNow at hB
  refine lv_iconst (v := 0) hx hb dX11_sumNow_0 (by decide) ?_
  refine lv_istore_n (lv' := [(3, .int 0), (0, .ref h), (1, .int x1), (2, .int x2)]) hx hb dX11_sumNow_1 rfl hl (by decide) rfl (fun ls hl => ?_)
  refine lv_iload_n hx hb dX11_sumNow_2 rfl (lv_at hl 2 rfl) ?_
  refine lv_istore (lv' := [(4, .int x1), (3, .int 0), (0, .ref h), (1, .int x1), (2, .int x2)]) hx hb dX11_sumNow_3 hl (by decide) rfl (fun ls hl => ?_)
  exact br_sumNow_5L fu _ _ _ _ _ hB p e s0 m below meth c A E H locs ls hP hD hS (lv_sub hl [2, 3, 4, 1, 0] rfl)
theorem cr_sumNow {l : Launch} {dC : Nat → ClassId} {dI : Nat → Nat → Nat} {cB cI cJ cZ cS : ClassId} {h : Nat} {a : Nat → Nat} {r : Int32} {s' : RS} {s : RS} {x1 : Int32} {x2 : Int32} (hB : r_sumNow s x1 x2 = some (r, s')) : CI l yX11_sumNow wsX11_sumNow ({ frames := 0, cells := 0, slots := 0, locals := 0 }) (dC, dI) (tysA cB cI cJ cZ cS) (mwS cB cI cJ cZ h a s) [.ref h, .int x1, .int x2] (fun x u => x = r ∧ u = (mwS cB cI cJ cZ h a s')) :=
  CI_of (cc := cX11_sumNow) (maxL := 5) (ret := (some .int)) (by decide) rfl (Nat.le_of_ble_eq_true rfl) (br_sumNow _ _ _ hB)
theorem LX11_count_101 : Cond.fieldLink RX11 101 "GuessFerryModel" "row" "[I" ∈ wsX11_count := (List.mem_cons_of_mem _ (List.mem_append_left _ (List.mem_append_left _ (List.mem_of_getElem? (i := 3) rfl))))
theorem LX11_count_128 : Cond.fieldLink RX11 128 "GuessFerryModel" "isHeld" "[Z" ∈ wsX11_count := (List.mem_cons_of_mem _ (List.mem_append_left _ (List.mem_append_left _ (List.mem_of_getElem? (i := 7) rfl))))
theorem LX11_count_148 : Cond.fieldLink RX11 148 "GuessFerryModel" "taped" "I" ∈ wsX11_count := (List.mem_cons_of_mem _ (List.mem_append_left _ (List.mem_append_left _ (List.mem_of_getElem? (i := 4) rfl))))
theorem LX11_count_215 : Cond.fieldLink RX11 215 "GuessFerryModel" "live" "I" ∈ wsX11_count := (List.mem_cons_of_mem _ (List.mem_append_left _ (List.mem_append_left _ (List.mem_of_getElem? (i := 1) rfl))))
theorem LX11_count_230 : Cond.fieldLink RX11 230 "GuessFerryModel" "undos" "I" ∈ wsX11_count := (List.mem_cons_of_mem _ (List.mem_append_left _ (List.mem_append_left _ (List.mem_of_getElem? (i := 5) rfl))))
theorem LX11_count_233 : Cond.fieldLink RX11 233 "GuessFerryModel" "tolds" "I" ∈ wsX11_count := (List.mem_cons_of_mem _ (List.mem_append_left _ (List.mem_append_left _ (List.mem_of_getElem? (i := 6) rfl))))
theorem LX11_count_40 : Cond.fieldLink RX11 40 "GuessFerryModel" "waves" "[I" ∈ wsX11_count := (List.mem_cons_of_mem _ (List.mem_append_left _ (List.mem_append_left _ (List.mem_of_getElem? (i := 0) rfl))))
theorem LX11_count_49 : Cond.fieldLink RX11 49 "GuessFerryModel" "parties" "[I" ∈ wsX11_count := (List.mem_cons_of_mem _ (List.mem_append_left _ (List.mem_append_left _ (List.mem_of_getElem? (i := 2) rfl))))
theorem inX11_count_X11 : ∀ w ∈ u_ws RX11 TX11 58, w ∈ wsX11_count := fun w h => (List.mem_cons_of_mem _ (List.mem_append_right _ h))
set_option maxHeartbeats 4000000 in
set_option maxRecDepth 100000 in
theorem br_count_202 {l : Launch} {dC : Nat → ClassId} {dI : Nat → Nat → Nat} {cB cI cJ cZ cS : ClassId} {h : Nat} {a : Nat → Nat} {as : List Value} {r : Int32} {s' : RS} (s : RS) (t0 : Int32) (t1 : Int32) (hB : r_count_202 s t0 t1 = some (r, s')) : BlkI l yX11_count wsX11_count ({ frames := 4, cells := 0, slots := 0, locals := 90 }) cX11_count 4 (some .int) (dC, dI) (tysA cB cI cJ cZ cS) as 202 (mwS cB cI cJ cZ h a s) [(0, .ref h)] [.int t0, .int t1] (fun x u => x = r ∧ u = (mwS cB cI cJ cZ h a s')) := by
  intro p e s0 m below meth c A E H locs ls hP hD hS hl
  obtain ⟨C, hr, hlocks, hA, hK, hN⟩ := id E
  obtain ⟨hx, hb, hml, hown, hts⟩ := id C
  unfold r_count_202 at hB
  refine lv_iadd hx hb dX11_count_202 ?_
  refine lv_aload_n hx hb dX11_count_203 rfl (lv_at hl 0 rfl) ?_
  refine q_get (v := .ref (a 56)) C inX11_count_X11 hK hP 0 rfl rfl 56 (by decide) rfl LX11_count_128 rfl dX11_count_204 ?_
  refine lv_iconst (v := 2) hx hb dX11_count_207 (by decide) ?_
  refine q_zald (x := (s.f 56 2)) C hK hP 37 3 rfl rfl (vp_lit (by decide +kernel)) dX11_count_208 rfl ?_
  refine lv_if_eq (tgt := 216) hx hb dX11_count_209 (by decide) (fun c1 => ?_) (fun c1 => ?_)
  · have hB := if_p hB c1
    refine lv_iconst (v := 0) hx hb dX11_count_216 (by decide) ?_
    refine lv_iadd hx hb dX11_count_217 ?_
    exact q_iret C hr hlocks hK hP hD hS (Nat.le_of_ble_eq_true rfl) (Nat.le_of_ble_eq_true rfl) dX11_count_218 (by cases hB; exact ⟨rfl, rfl⟩)
  · have hB := if_n hB c1
    refine lv_iconst (v := 1) hx hb dX11_count_212 (by decide) ?_
    refine lv_goto (tgt := 217) hx hb dX11_count_213 (by decide) ?_
    refine lv_iadd hx hb dX11_count_217 ?_
    exact q_iret C hr hlocks hK hP hD hS (Nat.le_of_ble_eq_true rfl) (Nat.le_of_ble_eq_true rfl) dX11_count_218 (by cases hB; exact ⟨rfl, rfl⟩)
set_option maxHeartbeats 4000000 in
set_option maxRecDepth 100000 in
theorem br_count_188 {l : Launch} {dC : Nat → ClassId} {dI : Nat → Nat → Nat} {cB cI cJ cZ cS : ClassId} {h : Nat} {a : Nat → Nat} {as : List Value} {r : Int32} {s' : RS} (s : RS) (t0 : Int32) (hB : r_count_188 s t0 = some (r, s')) : BlkI l yX11_count wsX11_count ({ frames := 4, cells := 0, slots := 0, locals := 90 }) cX11_count 4 (some .int) (dC, dI) (tysA cB cI cJ cZ cS) as 188 (mwS cB cI cJ cZ h a s) [(0, .ref h)] [.int t0] (fun x u => x = r ∧ u = (mwS cB cI cJ cZ h a s')) := by
  intro p e s0 m below meth c A E H locs ls hP hD hS hl
  obtain ⟨C, hr, hlocks, hA, hK, hN⟩ := id E
  obtain ⟨hx, hb, hml, hown, hts⟩ := id C
  unfold r_count_188 at hB
  refine lv_aload_n hx hb dX11_count_188 rfl (lv_at hl 0 rfl) ?_
  refine q_get (v := .ref (a 56)) C inX11_count_X11 hK hP 0 rfl rfl 56 (by decide) rfl LX11_count_128 rfl dX11_count_189 ?_
  refine lv_iconst (v := 1) hx hb dX11_count_192 (by decide) ?_
  refine q_zald (x := (s.f 56 1)) C hK hP 37 3 rfl rfl (vp_lit (by decide +kernel)) dX11_count_193 rfl ?_
  refine lv_if_eq (tgt := 201) hx hb dX11_count_194 (by decide) (fun c1 => ?_) (fun c1 => ?_)
  · have hB := if_p hB c1
    refine lv_iconst (v := 0) hx hb dX11_count_201 (by decide) ?_
    exact br_count_202 _ _ _ hB p e s0 m below meth c A E H locs ls hP hD hS (lv_sub hl [0] rfl)
  · have hB := if_n hB c1
    refine lv_iconst (v := 1) hx hb dX11_count_197 (by decide) ?_
    refine lv_goto (tgt := 202) hx hb dX11_count_198 (by decide) ?_
    exact br_count_202 _ _ _ hB p e s0 m below meth c A E H locs ls hP hD hS (lv_sub hl [0] rfl)
set_option maxHeartbeats 4000000 in
set_option maxRecDepth 100000 in
theorem br_count_301 {l : Launch} {dC : Nat → ClassId} {dI : Nat → Nat → Nat} {cB cI cJ cZ cS : ClassId} {h : Nat} {a : Nat → Nat} {as : List Value} {r : Int32} {s' : RS} {k271 : RS → Int32 → Int32 → Option (Int32 × RS)} (hk271 : ∀ (s : RS) (x2 : Int32) (x3 : Int32), k271 s x2 x3 = some (r, s') → BlkI l yX11_count wsX11_count ({ frames := 4, cells := 0, slots := 0, locals := 90 }) cX11_count 4 (some .int) (dC, dI) (tysA cB cI cJ cZ cS) as 271 (mwS cB cI cJ cZ h a s) [(0, .ref h), (2, .int x2), (3, .int x3)] [] (fun x u => x = r ∧ u = (mwS cB cI cJ cZ h a s'))) (s : RS) (x2 : Int32) (x3 : Int32) (hB : r_count_301 k271 s x2 x3 = some (r, s')) : BlkI l yX11_count wsX11_count ({ frames := 4, cells := 0, slots := 0, locals := 90 }) cX11_count 4 (some .int) (dC, dI) (tysA cB cI cJ cZ cS) as 301 (mwS cB cI cJ cZ h a s) [(0, .ref h), (2, .int x2), (3, .int x3)] [] (fun x u => x = r ∧ u = (mwS cB cI cJ cZ h a s')) := by
  intro p e s0 m below meth c A E H locs ls hP hD hS hl
  obtain ⟨C, hr, hlocks, hA, hK, hN⟩ := id E
  obtain ⟨hx, hb, hml, hown, hts⟩ := id C
  unfold r_count_301 at hB
  refine lv_iinc (v := (x3 + 1)) (lv' := [(3, .int (x3 + 1)), (0, .ref h), (2, .int x2)]) hx hb dX11_count_301 hl (k := 2) rfl (rfl) (by decide) rfl (fun ls hl => ?_)
  refine lv_goto (tgt := 271) hx hb dX11_count_304 (by decide) ?_
  exact hk271 _ _ _ hB p e s0 m below meth c A E H locs ls hP hD hS (lv_sub hl [1, 2, 0] rfl)
set_option maxHeartbeats 4000000 in
set_option maxRecDepth 100000 in
theorem br_count_271 {l : Launch} {dC : Nat → ClassId} {dI : Nat → Nat → Nat} {cB cI cJ cZ cS : ClassId} {h : Nat} {a : Nat → Nat} {as : List Value} {r : Int32} {s' : RS} {k271 : RS → Int32 → Int32 → Option (Int32 × RS)} (hk271 : ∀ (s : RS) (x2 : Int32) (x3 : Int32), k271 s x2 x3 = some (r, s') → BlkI l yX11_count wsX11_count ({ frames := 4, cells := 0, slots := 0, locals := 90 }) cX11_count 4 (some .int) (dC, dI) (tysA cB cI cJ cZ cS) as 271 (mwS cB cI cJ cZ h a s) [(0, .ref h), (2, .int x2), (3, .int x3)] [] (fun x u => x = r ∧ u = (mwS cB cI cJ cZ h a s'))) (s : RS) (x2 : Int32) (x3 : Int32) (hB : r_count_271 k271 s x2 x3 = some (r, s')) : BlkI l yX11_count wsX11_count ({ frames := 4, cells := 0, slots := 0, locals := 90 }) cX11_count 4 (some .int) (dC, dI) (tysA cB cI cJ cZ cS) as 271 (mwS cB cI cJ cZ h a s) [(0, .ref h), (2, .int x2), (3, .int x3)] [] (fun x u => x = r ∧ u = (mwS cB cI cJ cZ h a s')) := by
  intro p e s0 m below meth c A E H locs ls hP hD hS hl
  obtain ⟨C, hr, hlocks, hA, hK, hN⟩ := id E
  obtain ⟨hx, hb, hml, hown, hts⟩ := id C
  unfold r_count_271 at hB
  refine lv_iload_n hx hb dX11_count_271 rfl (lv_at hl 2 rfl) ?_
  refine lv_aload_n hx hb dX11_count_272 rfl (lv_at hl 0 rfl) ?_
  refine q_get (v := .ref (a 20)) C inX11_count_X11 hK hP 0 rfl rfl 20 (by decide) rfl LX11_count_40 rfl dX11_count_273 ?_
  refine lv_aload_n hx hb dX11_count_276 rfl (lv_at hl 0 rfl) ?_
  refine q_get (v := .int (s.v 18)) C inX11_count_X11 hK hP 0 rfl rfl 18 (by decide) rfl LX11_count_215 rfl dX11_count_277 ?_
  obtain ⟨g1, hB⟩ := guard_inv hB
  refine q_iald (x := (s.f 20 (Int32.toNatClampNeg (s.v 18)))) C hK hP 8 1 rfl rfl (vpb_in g1) dX11_count_280 rfl ?_
  refine lv_icmp_ge (tgt := 307) hx hb dX11_count_281 (by decide) (fun c2 => ?_) (fun c2 => ?_)
  · have hB := if_p hB c2
    refine lv_iload_n hx hb dX11_count_307 rfl (lv_at hl 1 rfl) ?_
    exact q_iret C hr hlocks hK hP hD hS (Nat.le_of_ble_eq_true rfl) (Nat.le_of_ble_eq_true rfl) dX11_count_308 (by cases hB; exact ⟨rfl, rfl⟩)
  · have hB := if_n hB c2
    refine lv_aload_n hx hb dX11_count_284 rfl (lv_at hl 0 rfl) ?_
    refine q_get (v := .ref (a 44)) C inX11_count_X11 hK hP 0 rfl rfl 44 (by decide) rfl LX11_count_101 rfl dX11_count_285 ?_
    refine lv_iconst (v := 5) hx hb dX11_count_288 (by decide) ?_
    refine lv_iload_n hx hb dX11_count_289 rfl (lv_at hl 2 rfl) ?_
    refine lv_iadd hx hb dX11_count_290 ?_
    obtain ⟨g3, hB⟩ := guard_inv hB
    refine q_iald (x := (s.f 44 (Int32.toNatClampNeg (5 + x3)))) C hK hP 28 1 rfl rfl (vpb_in g3) dX11_count_291 rfl ?_
    refine lv_if_lt (tgt := 301) hx hb dX11_count_292 (by decide) (fun c4 => ?_) (fun c4 => ?_)
    · have hB := if_p hB c4
      exact br_count_301 (hk271) _ _ _ hB p e s0 m below meth c A E H locs ls hP hD hS (lv_sub hl [0, 1, 2] rfl)
    · have hB := if_n hB c4
      refine lv_iload_n hx hb dX11_count_295 rfl (lv_at hl 1 rfl) ?_
      refine lv_iconst (v := 1) hx hb dX11_count_296 (by decide) ?_
      refine lv_iload_n hx hb dX11_count_297 rfl (lv_at hl 2 rfl) ?_
      refine lv_ishl hx hb dX11_count_298 ?_
      refine lv_ior hx hb dX11_count_299 ?_
      refine lv_istore_n (lv' := [(2, .int (x2 ||| (1 <<< (x3 &&& 31)))), (0, .ref h), (3, .int x3)]) hx hb dX11_count_300 rfl hl (by decide) rfl (fun ls hl => ?_)
      exact br_count_301 (hk271) _ _ _ hB p e s0 m below meth c A E H locs ls hP hD hS (lv_sub hl [1, 0, 2] rfl)
theorem br_count_271L {l : Launch} {dC : Nat → ClassId} {dI : Nat → Nat → Nat} {cB cI cJ cZ cS : ClassId} {h : Nat} {a : Nat → Nat} {as : List Value} {r : Int32} {s' : RS} : ∀ (n : Nat) (s : RS) (x2 : Int32) (x3 : Int32), r_count_271L n s x2 x3 = some (r, s') → BlkI l yX11_count wsX11_count ({ frames := 4, cells := 0, slots := 0, locals := 90 }) cX11_count 4 (some .int) (dC, dI) (tysA cB cI cJ cZ cS) as 271 (mwS cB cI cJ cZ h a s) [(0, .ref h), (2, .int x2), (3, .int x3)] [] (fun x u => x = r ∧ u = (mwS cB cI cJ cZ h a s')) := by
  intro n
  induction n with
  | zero => intro s x2 x3 hB; exact none_ne hB
  | succ n ih => intro s x2 x3 hB; exact br_count_271 ih _ _ _ hB
set_option maxHeartbeats 4000000 in
set_option maxRecDepth 100000 in
theorem br_count_356 {l : Launch} {dC : Nat → ClassId} {dI : Nat → Nat → Nat} {cB cI cJ cZ cS : ClassId} {h : Nat} {a : Nat → Nat} {as : List Value} {r : Int32} {s' : RS} {k329 : RS → Int32 → Int32 → Option (Int32 × RS)} (hk329 : ∀ (s : RS) (x2 : Int32) (x3 : Int32), k329 s x2 x3 = some (r, s') → BlkI l yX11_count wsX11_count ({ frames := 4, cells := 0, slots := 0, locals := 90 }) cX11_count 4 (some .int) (dC, dI) (tysA cB cI cJ cZ cS) as 329 (mwS cB cI cJ cZ h a s) [(0, .ref h), (2, .int x2), (3, .int x3)] [] (fun x u => x = r ∧ u = (mwS cB cI cJ cZ h a s'))) (s : RS) (x2 : Int32) (x3 : Int32) (hB : r_count_356 k329 s x2 x3 = some (r, s')) : BlkI l yX11_count wsX11_count ({ frames := 4, cells := 0, slots := 0, locals := 90 }) cX11_count 4 (some .int) (dC, dI) (tysA cB cI cJ cZ cS) as 356 (mwS cB cI cJ cZ h a s) [(0, .ref h), (2, .int x2), (3, .int x3)] [] (fun x u => x = r ∧ u = (mwS cB cI cJ cZ h a s')) := by
  intro p e s0 m below meth c A E H locs ls hP hD hS hl
  obtain ⟨C, hr, hlocks, hA, hK, hN⟩ := id E
  obtain ⟨hx, hb, hml, hown, hts⟩ := id C
  unfold r_count_356 at hB
  refine lv_iinc (v := (x3 + 1)) (lv' := [(3, .int (x3 + 1)), (0, .ref h), (2, .int x2)]) hx hb dX11_count_356 hl (k := 2) rfl (rfl) (by decide) rfl (fun ls hl => ?_)
  refine lv_goto (tgt := 329) hx hb dX11_count_359 (by decide) ?_
  exact hk329 _ _ _ hB p e s0 m below meth c A E H locs ls hP hD hS (lv_sub hl [1, 2, 0] rfl)
set_option maxHeartbeats 4000000 in
set_option maxRecDepth 100000 in
theorem br_count_329 {l : Launch} {dC : Nat → ClassId} {dI : Nat → Nat → Nat} {cB cI cJ cZ cS : ClassId} {h : Nat} {a : Nat → Nat} {as : List Value} {r : Int32} {s' : RS} {k329 : RS → Int32 → Int32 → Option (Int32 × RS)} (hk329 : ∀ (s : RS) (x2 : Int32) (x3 : Int32), k329 s x2 x3 = some (r, s') → BlkI l yX11_count wsX11_count ({ frames := 4, cells := 0, slots := 0, locals := 90 }) cX11_count 4 (some .int) (dC, dI) (tysA cB cI cJ cZ cS) as 329 (mwS cB cI cJ cZ h a s) [(0, .ref h), (2, .int x2), (3, .int x3)] [] (fun x u => x = r ∧ u = (mwS cB cI cJ cZ h a s'))) (s : RS) (x2 : Int32) (x3 : Int32) (hB : r_count_329 k329 s x2 x3 = some (r, s')) : BlkI l yX11_count wsX11_count ({ frames := 4, cells := 0, slots := 0, locals := 90 }) cX11_count 4 (some .int) (dC, dI) (tysA cB cI cJ cZ cS) as 329 (mwS cB cI cJ cZ h a s) [(0, .ref h), (2, .int x2), (3, .int x3)] [] (fun x u => x = r ∧ u = (mwS cB cI cJ cZ h a s')) := by
  intro p e s0 m below meth c A E H locs ls hP hD hS hl
  obtain ⟨C, hr, hlocks, hA, hK, hN⟩ := id E
  obtain ⟨hx, hb, hml, hown, hts⟩ := id C
  unfold r_count_329 at hB
  refine lv_iload_n hx hb dX11_count_329 rfl (lv_at hl 2 rfl) ?_
  refine lv_aload_n hx hb dX11_count_330 rfl (lv_at hl 0 rfl) ?_
  refine q_get (v := .ref (a 20)) C inX11_count_X11 hK hP 0 rfl rfl 20 (by decide) rfl LX11_count_40 rfl dX11_count_331 ?_
  refine lv_aload_n hx hb dX11_count_334 rfl (lv_at hl 0 rfl) ?_
  refine q_get (v := .int (s.v 18)) C inX11_count_X11 hK hP 0 rfl rfl 18 (by decide) rfl LX11_count_215 rfl dX11_count_335 ?_
  obtain ⟨g1, hB⟩ := guard_inv hB
  refine q_iald (x := (s.f 20 (Int32.toNatClampNeg (s.v 18)))) C hK hP 8 1 rfl rfl (vpb_in g1) dX11_count_338 rfl ?_
  refine lv_icmp_ge (tgt := 362) hx hb dX11_count_339 (by decide) (fun c2 => ?_) (fun c2 => ?_)
  · have hB := if_p hB c2
    refine lv_iload_n hx hb dX11_count_362 rfl (lv_at hl 1 rfl) ?_
    exact q_iret C hr hlocks hK hP hD hS (Nat.le_of_ble_eq_true rfl) (Nat.le_of_ble_eq_true rfl) dX11_count_363 (by cases hB; exact ⟨rfl, rfl⟩)
  · have hB := if_n hB c2
    refine lv_aload_n hx hb dX11_count_342 rfl (lv_at hl 0 rfl) ?_
    refine lv_iload_n hx hb dX11_count_343 rfl (lv_at hl 2 rfl) ?_
    obtain ⟨q_, s3, hc, hB⟩ := bindI_inv hB
    refine q_goiF (va_runV (As := [.int x3]) (rest := []) C (cr_mayAt hc _) (cwV 1 hts gX11_count_X11_mayAt rfl rfl rfl (by decide +kernel) ⟨Nat.le_of_ble_eq_true rfl, Nat.le_of_ble_eq_true rfl⟩) (q_preV hK hP (ci := 11) (q0 := 0) rfl rfl rfl (q_preF hN hK hP hD)) rfl rfl hl.1 rfl (lv_room (Nat.le_of_ble_eq_true rfl)) dX11_count_344 ⟨Nat.le_of_ble_eq_true rfl, Nat.le_of_ble_eq_true rfl⟩) hD hS hA (fun r4 w1 H locs hw hP hD hS => ?_)
    obtain ⟨hq_, hw⟩ := hw; subst hw; subst hq_
    refine lv_if_ne (tgt := 356) hx hb dX11_count_347 (by decide) (fun c5 => ?_) (fun c5 => ?_)
    · have hB := if_n hB c5
      exact br_count_356 (hk329) _ _ _ hB p e s0 m below meth c A E H locs ls hP hD hS (lv_sub hl [0, 1, 2] rfl)
    · have hB := if_p hB c5
      refine lv_iload_n hx hb dX11_count_350 rfl (lv_at hl 1 rfl) ?_
      refine lv_iconst (v := 1) hx hb dX11_count_351 (by decide) ?_
      refine lv_iload_n hx hb dX11_count_352 rfl (lv_at hl 2 rfl) ?_
      refine lv_ishl hx hb dX11_count_353 ?_
      refine lv_ior hx hb dX11_count_354 ?_
      refine lv_istore_n (lv' := [(2, .int (x2 ||| (1 <<< (x3 &&& 31)))), (0, .ref h), (3, .int x3)]) hx hb dX11_count_355 rfl hl (by decide) rfl (fun ls hl => ?_)
      exact br_count_356 (hk329) _ _ _ hB p e s0 m below meth c A E H locs ls hP hD hS (lv_sub hl [1, 0, 2] rfl)
theorem br_count_329L {l : Launch} {dC : Nat → ClassId} {dI : Nat → Nat → Nat} {cB cI cJ cZ cS : ClassId} {h : Nat} {a : Nat → Nat} {as : List Value} {r : Int32} {s' : RS} : ∀ (n : Nat) (s : RS) (x2 : Int32) (x3 : Int32), r_count_329L n s x2 x3 = some (r, s') → BlkI l yX11_count wsX11_count ({ frames := 4, cells := 0, slots := 0, locals := 90 }) cX11_count 4 (some .int) (dC, dI) (tysA cB cI cJ cZ cS) as 329 (mwS cB cI cJ cZ h a s) [(0, .ref h), (2, .int x2), (3, .int x3)] [] (fun x u => x = r ∧ u = (mwS cB cI cJ cZ h a s')) := by
  intro n
  induction n with
  | zero => intro s x2 x3 hB; exact none_ne hB
  | succ n ih => intro s x2 x3 hB; exact br_count_329 ih _ _ _ hB
set_option maxHeartbeats 4000000 in
set_option maxRecDepth 100000 in
theorem br_count_395 {l : Launch} {dC : Nat → ClassId} {dI : Nat → Nat → Nat} {cB cI cJ cZ cS : ClassId} {h : Nat} {a : Nat → Nat} {as : List Value} {r : Int32} {s' : RS} {k366 : RS → Int32 → Int32 → Option (Int32 × RS)} (hk366 : ∀ (s : RS) (x2 : Int32) (x3 : Int32), k366 s x2 x3 = some (r, s') → BlkI l yX11_count wsX11_count ({ frames := 4, cells := 0, slots := 0, locals := 90 }) cX11_count 4 (some .int) (dC, dI) (tysA cB cI cJ cZ cS) as 366 (mwS cB cI cJ cZ h a s) [(0, .ref h), (2, .int x2), (3, .int x3)] [] (fun x u => x = r ∧ u = (mwS cB cI cJ cZ h a s'))) (s : RS) (x2 : Int32) (x3 : Int32) (hB : r_count_395 k366 s x2 x3 = some (r, s')) : BlkI l yX11_count wsX11_count ({ frames := 4, cells := 0, slots := 0, locals := 90 }) cX11_count 4 (some .int) (dC, dI) (tysA cB cI cJ cZ cS) as 395 (mwS cB cI cJ cZ h a s) [(0, .ref h), (2, .int x2), (3, .int x3)] [] (fun x u => x = r ∧ u = (mwS cB cI cJ cZ h a s')) := by
  intro p e s0 m below meth c A E H locs ls hP hD hS hl
  obtain ⟨C, hr, hlocks, hA, hK, hN⟩ := id E
  obtain ⟨hx, hb, hml, hown, hts⟩ := id C
  unfold r_count_395 at hB
  refine lv_iinc (v := (x3 + 1)) (lv' := [(3, .int (x3 + 1)), (0, .ref h), (2, .int x2)]) hx hb dX11_count_395 hl (k := 2) rfl (rfl) (by decide) rfl (fun ls hl => ?_)
  refine lv_goto (tgt := 366) hx hb dX11_count_398 (by decide) ?_
  exact hk366 _ _ _ hB p e s0 m below meth c A E H locs ls hP hD hS (lv_sub hl [1, 2, 0] rfl)
set_option maxHeartbeats 4000000 in
set_option maxRecDepth 100000 in
theorem br_count_366 {l : Launch} {dC : Nat → ClassId} {dI : Nat → Nat → Nat} {cB cI cJ cZ cS : ClassId} {h : Nat} {a : Nat → Nat} {as : List Value} {r : Int32} {s' : RS} {k366 : RS → Int32 → Int32 → Option (Int32 × RS)} (hk366 : ∀ (s : RS) (x2 : Int32) (x3 : Int32), k366 s x2 x3 = some (r, s') → BlkI l yX11_count wsX11_count ({ frames := 4, cells := 0, slots := 0, locals := 90 }) cX11_count 4 (some .int) (dC, dI) (tysA cB cI cJ cZ cS) as 366 (mwS cB cI cJ cZ h a s) [(0, .ref h), (2, .int x2), (3, .int x3)] [] (fun x u => x = r ∧ u = (mwS cB cI cJ cZ h a s'))) (s : RS) (x2 : Int32) (x3 : Int32) (hB : r_count_366 k366 s x2 x3 = some (r, s')) : BlkI l yX11_count wsX11_count ({ frames := 4, cells := 0, slots := 0, locals := 90 }) cX11_count 4 (some .int) (dC, dI) (tysA cB cI cJ cZ cS) as 366 (mwS cB cI cJ cZ h a s) [(0, .ref h), (2, .int x2), (3, .int x3)] [] (fun x u => x = r ∧ u = (mwS cB cI cJ cZ h a s')) := by
  intro p e s0 m below meth c A E H locs ls hP hD hS hl
  obtain ⟨C, hr, hlocks, hA, hK, hN⟩ := id E
  obtain ⟨hx, hb, hml, hown, hts⟩ := id C
  unfold r_count_366 at hB
  refine lv_iload_n hx hb dX11_count_366 rfl (lv_at hl 2 rfl) ?_
  refine lv_aload_n hx hb dX11_count_367 rfl (lv_at hl 0 rfl) ?_
  refine q_get (v := .ref (a 23)) C inX11_count_X11 hK hP 0 rfl rfl 23 (by decide) rfl LX11_count_49 rfl dX11_count_368 ?_
  refine lv_aload_n hx hb dX11_count_371 rfl (lv_at hl 0 rfl) ?_
  refine q_get (v := .int (s.v 18)) C inX11_count_X11 hK hP 0 rfl rfl 18 (by decide) rfl LX11_count_215 rfl dX11_count_372 ?_
  obtain ⟨g1, hB⟩ := guard_inv hB
  refine q_iald (x := (s.f 23 (Int32.toNatClampNeg (s.v 18)))) C hK hP 11 1 rfl rfl (vpb_in g1) dX11_count_375 rfl ?_
  refine lv_icmp_ge (tgt := 401) hx hb dX11_count_376 (by decide) (fun c2 => ?_) (fun c2 => ?_)
  · have hB := if_p hB c2
    refine lv_iload_n hx hb dX11_count_401 rfl (lv_at hl 1 rfl) ?_
    exact q_iret C hr hlocks hK hP hD hS (Nat.le_of_ble_eq_true rfl) (Nat.le_of_ble_eq_true rfl) dX11_count_402 (by cases hB; exact ⟨rfl, rfl⟩)
  · have hB := if_n hB c2
    refine lv_aload_n hx hb dX11_count_379 rfl (lv_at hl 0 rfl) ?_
    refine lv_iload_n hx hb dX11_count_380 rfl (lv_at hl 2 rfl) ?_
    obtain ⟨q_, s3, hc, hB⟩ := bindI_inv hB
    refine q_goiF (va_runV (As := [.int x3]) (rest := []) C (cr_isHere hc _) (cwV 1 hts gX11_count_X11_isHere rfl rfl rfl (by decide +kernel) ⟨Nat.le_of_ble_eq_true rfl, Nat.le_of_ble_eq_true rfl⟩) (q_preV hK hP (ci := 11) (q0 := 0) rfl rfl rfl (q_preF hN hK hP hD)) rfl rfl hl.1 rfl (lv_room (Nat.le_of_ble_eq_true rfl)) dX11_count_381 ⟨Nat.le_of_ble_eq_true rfl, Nat.le_of_ble_eq_true rfl⟩) hD hS hA (fun r4 w1 H locs hw hP hD hS => ?_)
    obtain ⟨hq_, hw⟩ := hw; subst hw; subst hq_
    refine lv_if_eq (tgt := 395) hx hb dX11_count_384 (by decide) (fun c5 => ?_) (fun c5 => ?_)
    · have hB := if_p hB c5
      exact br_count_395 (hk366) _ _ _ hB p e s0 m below meth c A E H locs ls hP hD hS (lv_sub hl [0, 1, 2] rfl)
    · have hB := if_n hB c5
      refine lv_iload_n hx hb dX11_count_387 rfl (lv_at hl 1 rfl) ?_
      refine lv_aload_n hx hb dX11_count_388 rfl (lv_at hl 0 rfl) ?_
      refine lv_iload_n hx hb dX11_count_389 rfl (lv_at hl 2 rfl) ?_
      obtain ⟨q_, s6, hc, hB⟩ := bindI_inv hB
      refine q_goiF (va_runV (As := [.int x3]) (rest := [.int x2]) C (cr_faresOf hc _) (cwV 1 hts gX11_count_X11_faresOf rfl rfl rfl (by decide +kernel) ⟨Nat.le_of_ble_eq_true rfl, Nat.le_of_ble_eq_true rfl⟩) (q_preV hK hP (ci := 11) (q0 := 0) rfl rfl rfl (q_preF hN hK hP hD)) rfl rfl hl.1 rfl (lv_room (Nat.le_of_ble_eq_true rfl)) dX11_count_390 ⟨Nat.le_of_ble_eq_true rfl, Nat.le_of_ble_eq_true rfl⟩) hD hS hA (fun r7 w1 H locs hw hP hD hS => ?_)
      obtain ⟨hq_, hw⟩ := hw; subst hw; subst hq_
      refine lv_iadd hx hb dX11_count_393 ?_
      refine lv_istore_n (lv' := [(2, .int (x2 + r7)), (0, .ref h), (3, .int x3)]) hx hb dX11_count_394 rfl hl (by decide) rfl (fun ls hl => ?_)
      exact br_count_395 (hk366) _ _ _ hB p e s0 m below meth c A E H locs ls hP hD hS (lv_sub hl [1, 0, 2] rfl)
theorem br_count_366L {l : Launch} {dC : Nat → ClassId} {dI : Nat → Nat → Nat} {cB cI cJ cZ cS : ClassId} {h : Nat} {a : Nat → Nat} {as : List Value} {r : Int32} {s' : RS} : ∀ (n : Nat) (s : RS) (x2 : Int32) (x3 : Int32), r_count_366L n s x2 x3 = some (r, s') → BlkI l yX11_count wsX11_count ({ frames := 4, cells := 0, slots := 0, locals := 90 }) cX11_count 4 (some .int) (dC, dI) (tysA cB cI cJ cZ cS) as 366 (mwS cB cI cJ cZ h a s) [(0, .ref h), (2, .int x2), (3, .int x3)] [] (fun x u => x = r ∧ u = (mwS cB cI cJ cZ h a s')) := by
  intro n
  induction n with
  | zero => intro s x2 x3 hB; exact none_ne hB
  | succ n ih => intro s x2 x3 hB; exact br_count_366 ih _ _ _ hB
set_option maxHeartbeats 4000000 in
set_option maxRecDepth 100000 in
theorem br_count {l : Launch} {dC : Nat → ClassId} {dI : Nat → Nat → Nat} {cB cI cJ cZ cS : ClassId} {h : Nat} {a : Nat → Nat} {as : List Value} {r : Int32} {s' : RS} (s : RS) (x1 : Int32) (hB : r_count s x1 = some (r, s')) : BlkI l yX11_count wsX11_count ({ frames := 4, cells := 0, slots := 0, locals := 90 }) cX11_count 4 (some .int) (dC, dI) (tysA cB cI cJ cZ cS) as 0 (mwS cB cI cJ cZ h a s) [(0, .ref h), (1, .int x1)] [] (fun x u => x = r ∧ u = (mwS cB cI cJ cZ h a s')) := by
  intro p e s0 m below meth c A E H locs ls hP hD hS hl
  obtain ⟨C, hr, hlocks, hA, hK, hN⟩ := id E
  obtain ⟨hx, hb, hml, hown, hts⟩ := id C
  unfold r_count at hB
  refine lv_aload_n hx hb dX11_count_0 rfl (lv_at hl 0 rfl) ?_
  obtain ⟨s1, hc, hB⟩ := bindP_inv hB
  refine q_govF (va_runV (As := []) (rest := []) C (cr_copies hc _) (cwV 0 hts gX11_count_X11_copies rfl rfl rfl (by decide +kernel) ⟨Nat.le_of_ble_eq_true rfl, Nat.le_of_ble_eq_true rfl⟩) (q_preV hK hP (ci := 11) (q0 := 0) rfl rfl rfl (q_preF hN hK hP hD)) rfl rfl hl.1 rfl (lv_room (Nat.le_of_ble_eq_true rfl)) dX11_count_1 ⟨Nat.le_of_ble_eq_true rfl, Nat.le_of_ble_eq_true rfl⟩) hD hS hA (fun w1 H locs hw hP hD hS => ?_)
  subst hw
  refine lv_iconst (v := 0) hx hb dX11_count_4 (by decide) ?_
  refine lv_istore_n (lv' := [(2, .int 0), (0, .ref h), (1, .int x1)]) hx hb dX11_count_5 rfl hl (by decide) rfl (fun ls hl => ?_)
  refine lv_iload_n hx hb dX11_count_6 rfl (lv_at hl 2 rfl) ?_
  by_cases e2 : x1 = 0
  · have hB := if_p hB e2
    refine q_top (y := 0) e2 ?_
    refine lv_tableIn (off := 89) (tgt := 96) hx hb dX11_count_7 (by decide +kernel) (by decide +kernel) (by decide +kernel) (by decide) ?_
    refine lv_aload_n hx hb dX11_count_96 rfl (lv_at hl 1 rfl) ?_
    refine q_get (v := .ref (a 20)) C inX11_count_X11 hK hP 0 rfl rfl 20 (by decide) rfl LX11_count_40 rfl dX11_count_97 ?_
    refine lv_aload_n hx hb dX11_count_100 rfl (lv_at hl 1 rfl) ?_
    refine q_get (v := .int (s1.v 18)) C inX11_count_X11 hK hP 0 rfl rfl 18 (by decide) rfl LX11_count_215 rfl dX11_count_101 ?_
    obtain ⟨g3, hB⟩ := guard_inv hB
    refine q_iald (x := (s1.f 20 (Int32.toNatClampNeg (s1.v 18)))) C hK hP 8 1 rfl rfl (vpb_in g3) dX11_count_104 rfl ?_
    exact q_iret C hr hlocks hK hP hD hS (Nat.le_of_ble_eq_true rfl) (Nat.le_of_ble_eq_true rfl) dX11_count_105 (by cases hB; exact ⟨rfl, rfl⟩)
  · have hB := if_n hB e2
    by_cases e4 : x1 = 1
    · have hB := if_p hB e4
      refine q_top (y := 1) e4 ?_
      refine lv_tableIn (off := 99) (tgt := 106) hx hb dX11_count_7 (by decide +kernel) (by decide +kernel) (by decide +kernel) (by decide) ?_
      refine lv_aload_n hx hb dX11_count_106 rfl (lv_at hl 1 rfl) ?_
      refine q_get (v := .ref (a 23)) C inX11_count_X11 hK hP 0 rfl rfl 23 (by decide) rfl LX11_count_49 rfl dX11_count_107 ?_
      refine lv_aload_n hx hb dX11_count_110 rfl (lv_at hl 1 rfl) ?_
      refine q_get (v := .int (s1.v 18)) C inX11_count_X11 hK hP 0 rfl rfl 18 (by decide) rfl LX11_count_215 rfl dX11_count_111 ?_
      obtain ⟨g5, hB⟩ := guard_inv hB
      refine q_iald (x := (s1.f 23 (Int32.toNatClampNeg (s1.v 18)))) C hK hP 11 1 rfl rfl (vpb_in g5) dX11_count_114 rfl ?_
      exact q_iret C hr hlocks hK hP hD hS (Nat.le_of_ble_eq_true rfl) (Nat.le_of_ble_eq_true rfl) dX11_count_115 (by cases hB; exact ⟨rfl, rfl⟩)
    · have hB := if_n hB e4
      by_cases e6 : x1 = 2
      · have hB := if_p hB e6
        refine q_top (y := 2) e6 ?_
        refine lv_tableIn (off := 109) (tgt := 116) hx hb dX11_count_7 (by decide +kernel) (by decide +kernel) (by decide +kernel) (by decide) ?_
        refine lv_aload_n hx hb dX11_count_116 rfl (lv_at hl 1 rfl) ?_
        refine q_get (v := .ref (a 44)) C inX11_count_X11 hK hP 0 rfl rfl 44 (by decide) rfl LX11_count_101 rfl dX11_count_117 ?_
        refine lv_bipush (v := 27) hx hb dX11_count_120 (by decide) ?_
        refine q_iald (x := (s1.f 44 27)) C hK hP 28 1 rfl rfl (vp_lit (by decide +kernel)) dX11_count_122 rfl ?_
        exact q_iret C hr hlocks hK hP hD hS (Nat.le_of_ble_eq_true rfl) (Nat.le_of_ble_eq_true rfl) dX11_count_123 (by cases hB; exact ⟨rfl, rfl⟩)
      · have hB := if_n hB e6
        by_cases e7 : x1 = 3
        · have hB := if_p hB e7
          refine q_top (y := 3) e7 ?_
          refine lv_tableIn (off := 117) (tgt := 124) hx hb dX11_count_7 (by decide +kernel) (by decide +kernel) (by decide +kernel) (by decide) ?_
          refine lv_aload_n hx hb dX11_count_124 rfl (lv_at hl 1 rfl) ?_
          refine q_get (v := .ref (a 44)) C inX11_count_X11 hK hP 0 rfl rfl 44 (by decide) rfl LX11_count_101 rfl dX11_count_125 ?_
          refine lv_bipush (v := 28) hx hb dX11_count_128 (by decide) ?_
          refine q_iald (x := (s1.f 44 28)) C hK hP 28 1 rfl rfl (vp_lit (by decide +kernel)) dX11_count_130 rfl ?_
          exact q_iret C hr hlocks hK hP hD hS (Nat.le_of_ble_eq_true rfl) (Nat.le_of_ble_eq_true rfl) dX11_count_131 (by cases hB; exact ⟨rfl, rfl⟩)
        · have hB := if_n hB e7
          by_cases e8 : x1 = 4
          · have hB := if_p hB e8
            refine q_top (y := 4) e8 ?_
            refine lv_tableIn (off := 125) (tgt := 132) hx hb dX11_count_7 (by decide +kernel) (by decide +kernel) (by decide +kernel) (by decide) ?_
            refine lv_aload_n hx hb dX11_count_132 rfl (lv_at hl 1 rfl) ?_
            refine lv_iconst (v := 0) hx hb dX11_count_133 (by decide) ?_
            obtain ⟨q_, s9, hc, hB⟩ := bindI_inv hB
            refine q_goiF (va_runV (As := [.int 0]) (rest := []) C (cr_partiesIn hc _) (cwV 1 hts gX11_count_X11_partiesIn rfl rfl rfl (by decide +kernel) ⟨Nat.le_of_ble_eq_true rfl, Nat.le_of_ble_eq_true rfl⟩) (q_preV hK hP (ci := 11) (q0 := 0) rfl rfl rfl (q_preF hN hK hP hD)) rfl rfl hl.1 rfl (lv_room (Nat.le_of_ble_eq_true rfl)) dX11_count_134 ⟨Nat.le_of_ble_eq_true rfl, Nat.le_of_ble_eq_true rfl⟩) hD hS hA (fun r10 w1 H locs hw hP hD hS => ?_)
            obtain ⟨hq_, hw⟩ := hw; subst hw; subst hq_
            exact q_iret C hr hlocks hK hP hD hS (Nat.le_of_ble_eq_true rfl) (Nat.le_of_ble_eq_true rfl) dX11_count_137 (by cases hB; exact ⟨rfl, rfl⟩)
          · have hB := if_n hB e8
            by_cases e11 : x1 = 5
            · have hB := if_p hB e11
              refine q_top (y := 5) e11 ?_
              refine lv_tableIn (off := 131) (tgt := 138) hx hb dX11_count_7 (by decide +kernel) (by decide +kernel) (by decide +kernel) (by decide) ?_
              refine lv_aload_n hx hb dX11_count_138 rfl (lv_at hl 1 rfl) ?_
              refine lv_iconst (v := 1) hx hb dX11_count_139 (by decide) ?_
              obtain ⟨q_, s12, hc, hB⟩ := bindI_inv hB
              refine q_goiF (va_runV (As := [.int 1]) (rest := []) C (cr_partiesIn hc _) (cwV 1 hts gX11_count_X11_partiesIn rfl rfl rfl (by decide +kernel) ⟨Nat.le_of_ble_eq_true rfl, Nat.le_of_ble_eq_true rfl⟩) (q_preV hK hP (ci := 11) (q0 := 0) rfl rfl rfl (q_preF hN hK hP hD)) rfl rfl hl.1 rfl (lv_room (Nat.le_of_ble_eq_true rfl)) dX11_count_140 ⟨Nat.le_of_ble_eq_true rfl, Nat.le_of_ble_eq_true rfl⟩) hD hS hA (fun r13 w1 H locs hw hP hD hS => ?_)
              obtain ⟨hq_, hw⟩ := hw; subst hw; subst hq_
              exact q_iret C hr hlocks hK hP hD hS (Nat.le_of_ble_eq_true rfl) (Nat.le_of_ble_eq_true rfl) dX11_count_143 (by cases hB; exact ⟨rfl, rfl⟩)
            · have hB := if_n hB e11
              by_cases e14 : x1 = 6
              · have hB := if_p hB e14
                refine q_top (y := 6) e14 ?_
                refine lv_tableIn (off := 137) (tgt := 144) hx hb dX11_count_7 (by decide +kernel) (by decide +kernel) (by decide +kernel) (by decide) ?_
                refine lv_aload_n hx hb dX11_count_144 rfl (lv_at hl 1 rfl) ?_
                refine lv_iconst (v := 2) hx hb dX11_count_145 (by decide) ?_
                obtain ⟨q_, s15, hc, hB⟩ := bindI_inv hB
                refine q_goiF (va_runV (As := [.int 2]) (rest := []) C (cr_partiesIn hc _) (cwV 1 hts gX11_count_X11_partiesIn rfl rfl rfl (by decide +kernel) ⟨Nat.le_of_ble_eq_true rfl, Nat.le_of_ble_eq_true rfl⟩) (q_preV hK hP (ci := 11) (q0 := 0) rfl rfl rfl (q_preF hN hK hP hD)) rfl rfl hl.1 rfl (lv_room (Nat.le_of_ble_eq_true rfl)) dX11_count_146 ⟨Nat.le_of_ble_eq_true rfl, Nat.le_of_ble_eq_true rfl⟩) hD hS hA (fun r16 w1 H locs hw hP hD hS => ?_)
                obtain ⟨hq_, hw⟩ := hw; subst hw; subst hq_
                exact q_iret C hr hlocks hK hP hD hS (Nat.le_of_ble_eq_true rfl) (Nat.le_of_ble_eq_true rfl) dX11_count_149 (by cases hB; exact ⟨rfl, rfl⟩)
              · have hB := if_n hB e14
                by_cases e17 : x1 = 7
                · have hB := if_p hB e17
                  refine q_top (y := 7) e17 ?_
                  refine lv_tableIn (off := 143) (tgt := 150) hx hb dX11_count_7 (by decide +kernel) (by decide +kernel) (by decide +kernel) (by decide) ?_
                  refine lv_aload_n hx hb dX11_count_150 rfl (lv_at hl 1 rfl) ?_
                  refine lv_bipush (v := 21) hx hb dX11_count_151 (by decide) ?_
                  refine lv_bipush (v := 6) hx hb dX11_count_153 (by decide) ?_
                  obtain ⟨q_, s18, hc, hB⟩ := bindI_inv hB
                  refine q_goiF (va_runV (As := [.int 21, .int 6]) (rest := []) C (cr_sumNow hc _) (cwV 2 hts gX11_count_X11_sumNow rfl rfl rfl (by decide +kernel) ⟨Nat.le_of_ble_eq_true rfl, Nat.le_of_ble_eq_true rfl⟩) (q_preV hK hP (ci := 11) (q0 := 0) rfl rfl rfl (q_preF hN hK hP hD)) rfl rfl hl.1 rfl (lv_room (Nat.le_of_ble_eq_true rfl)) dX11_count_155 ⟨Nat.le_of_ble_eq_true rfl, Nat.le_of_ble_eq_true rfl⟩) hD hS hA (fun r19 w1 H locs hw hP hD hS => ?_)
                  obtain ⟨hq_, hw⟩ := hw; subst hw; subst hq_
                  exact q_iret C hr hlocks hK hP hD hS (Nat.le_of_ble_eq_true rfl) (Nat.le_of_ble_eq_true rfl) dX11_count_158 (by cases hB; exact ⟨rfl, rfl⟩)
                · have hB := if_n hB e17
                  by_cases e20 : x1 = 8
                  · have hB := if_p hB e20
                    refine q_top (y := 8) e20 ?_
                    refine lv_tableIn (off := 152) (tgt := 159) hx hb dX11_count_7 (by decide +kernel) (by decide +kernel) (by decide +kernel) (by decide) ?_
                    refine lv_aload_n hx hb dX11_count_159 rfl (lv_at hl 1 rfl) ?_
                    refine q_get (v := .int (s1.v 2)) C inX11_count_X11 hK hP 0 rfl rfl 2 (by decide) rfl LX11_count_148 rfl dX11_count_160 ?_
                    exact q_iret C hr hlocks hK hP hD hS (Nat.le_of_ble_eq_true rfl) (Nat.le_of_ble_eq_true rfl) dX11_count_163 (by cases hB; exact ⟨rfl, rfl⟩)
                  · have hB := if_n hB e20
                    by_cases e21 : x1 = 9
                    · have hB := if_p hB e21
                      refine q_top (y := 9) e21 ?_
                      refine lv_tableIn (off := 157) (tgt := 164) hx hb dX11_count_7 (by decide +kernel) (by decide +kernel) (by decide +kernel) (by decide) ?_
                      refine lv_aload_n hx hb dX11_count_164 rfl (lv_at hl 1 rfl) ?_
                      refine q_get (v := .int (s1.v 48)) C inX11_count_X11 hK hP 0 rfl rfl 48 (by decide) rfl LX11_count_230 rfl dX11_count_165 ?_
                      exact q_iret C hr hlocks hK hP hD hS (Nat.le_of_ble_eq_true rfl) (Nat.le_of_ble_eq_true rfl) dX11_count_168 (by cases hB; exact ⟨rfl, rfl⟩)
                    · have hB := if_n hB e21
                      by_cases e22 : x1 = 10
                      · have hB := if_p hB e22
                        refine q_top (y := 10) e22 ?_
                        refine lv_tableIn (off := 162) (tgt := 169) hx hb dX11_count_7 (by decide +kernel) (by decide +kernel) (by decide +kernel) (by decide) ?_
                        refine lv_aload_n hx hb dX11_count_169 rfl (lv_at hl 1 rfl) ?_
                        refine q_get (v := .int (s1.v 51)) C inX11_count_X11 hK hP 0 rfl rfl 51 (by decide) rfl LX11_count_233 rfl dX11_count_170 ?_
                        exact q_iret C hr hlocks hK hP hD hS (Nat.le_of_ble_eq_true rfl) (Nat.le_of_ble_eq_true rfl) dX11_count_173 (by cases hB; exact ⟨rfl, rfl⟩)
                      · have hB := if_n hB e22
                        by_cases e23 : x1 = 11
                        · have hB := if_p hB e23
                          refine q_top (y := 11) e23 ?_
                          refine lv_tableIn (off := 167) (tgt := 174) hx hb dX11_count_7 (by decide +kernel) (by decide +kernel) (by decide +kernel) (by decide) ?_
                          refine lv_aload_n hx hb dX11_count_174 rfl (lv_at hl 1 rfl) ?_
                          refine q_get (v := .ref (a 56)) C inX11_count_X11 hK hP 0 rfl rfl 56 (by decide) rfl LX11_count_128 rfl dX11_count_175 ?_
                          refine lv_iconst (v := 0) hx hb dX11_count_178 (by decide) ?_
                          refine q_zald (x := (s1.f 56 0)) C hK hP 37 3 rfl rfl (vp_lit (by decide +kernel)) dX11_count_179 rfl ?_
                          refine lv_if_eq (tgt := 187) hx hb dX11_count_180 (by decide) (fun c24 => ?_) (fun c24 => ?_)
                          · have hB := if_p hB c24
                            refine lv_iconst (v := 0) hx hb dX11_count_187 (by decide) ?_
                            exact br_count_188 _ _ hB p e s0 m below meth c A E H locs ls hP hD hS (lv_sub hl [1] rfl)
                          · have hB := if_n hB c24
                            refine lv_iconst (v := 1) hx hb dX11_count_183 (by decide) ?_
                            refine lv_goto (tgt := 188) hx hb dX11_count_184 (by decide) ?_
                            exact br_count_188 _ _ hB p e s0 m below meth c A E H locs ls hP hD hS (lv_sub hl [1] rfl)
                        · have hB := if_n hB e23
                          by_cases e25 : x1 = 12
                          · have hB := if_p hB e25
                            refine q_top (y := 12) e25 ?_
                            refine lv_tableIn (off := 212) (tgt := 219) hx hb dX11_count_7 (by decide +kernel) (by decide +kernel) (by decide +kernel) (by decide) ?_
                            refine lv_aload_n hx hb dX11_count_219 rfl (lv_at hl 1 rfl) ?_
                            refine q_get (v := .ref (a 44)) C inX11_count_X11 hK hP 0 rfl rfl 44 (by decide) rfl LX11_count_101 rfl dX11_count_220 ?_
                            refine lv_iconst (v := 0) hx hb dX11_count_223 (by decide) ?_
                            refine q_iald (x := (s1.f 44 0)) C hK hP 28 1 rfl rfl (vp_lit (by decide +kernel)) dX11_count_224 rfl ?_
                            obtain ⟨q_, hc, hB⟩ := bindP_inv hB
                            refine q_goi0 (va_runS (As := [.int (s1.f 44 0)]) (rest := []) C (cr_bits hc _) (va_cwS 1 hts gX11_count_X11_bits rfl rfl rfl (by decide +kernel) ⟨Nat.le_of_ble_eq_true rfl, Nat.le_of_ble_eq_true rfl⟩) (q_pre0 hN hK) rfl rfl hl.1 rfl (lv_room (Nat.le_of_ble_eq_true rfl)) dX11_count_225 ⟨Nat.le_of_ble_eq_true rfl, Nat.le_of_ble_eq_true rfl⟩) hP hD hS hA (fun r26 w1 H locs hw hP hS => ?_)
                            subst hw
                            refine lv_aload_n hx hb dX11_count_228 rfl (lv_at hl 1 rfl) ?_
                            refine q_get (v := .ref (a 44)) C inX11_count_X11 hK hP 0 rfl rfl 44 (by decide) rfl LX11_count_101 rfl dX11_count_229 ?_
                            refine lv_iconst (v := 1) hx hb dX11_count_232 (by decide) ?_
                            refine q_iald (x := (s1.f 44 1)) C hK hP 28 1 rfl rfl (vp_lit (by decide +kernel)) dX11_count_233 rfl ?_
                            obtain ⟨q_, hc, hB⟩ := bindP_inv hB
                            refine q_goi0 (va_runS (As := [.int (s1.f 44 1)]) (rest := [.int r26]) C (cr_bits hc _) (va_cwS 1 hts gX11_count_X11_bits rfl rfl rfl (by decide +kernel) ⟨Nat.le_of_ble_eq_true rfl, Nat.le_of_ble_eq_true rfl⟩) (q_pre0 hN hK) rfl rfl hl.1 rfl (lv_room (Nat.le_of_ble_eq_true rfl)) dX11_count_234 ⟨Nat.le_of_ble_eq_true rfl, Nat.le_of_ble_eq_true rfl⟩) hP hD hS hA (fun r27 w1 H locs hw hP hS => ?_)
                            subst hw
                            refine lv_iadd hx hb dX11_count_237 ?_
                            refine lv_aload_n hx hb dX11_count_238 rfl (lv_at hl 1 rfl) ?_
                            refine q_get (v := .ref (a 44)) C inX11_count_X11 hK hP 0 rfl rfl 44 (by decide) rfl LX11_count_101 rfl dX11_count_239 ?_
                            refine lv_iconst (v := 2) hx hb dX11_count_242 (by decide) ?_
                            refine q_iald (x := (s1.f 44 2)) C hK hP 28 1 rfl rfl (vp_lit (by decide +kernel)) dX11_count_243 rfl ?_
                            obtain ⟨q_, hc, hB⟩ := bindP_inv hB
                            refine q_goi0 (va_runS (As := [.int (s1.f 44 2)]) (rest := [.int (r26 + r27)]) C (cr_bits hc _) (va_cwS 1 hts gX11_count_X11_bits rfl rfl rfl (by decide +kernel) ⟨Nat.le_of_ble_eq_true rfl, Nat.le_of_ble_eq_true rfl⟩) (q_pre0 hN hK) rfl rfl hl.1 rfl (lv_room (Nat.le_of_ble_eq_true rfl)) dX11_count_244 ⟨Nat.le_of_ble_eq_true rfl, Nat.le_of_ble_eq_true rfl⟩) hP hD hS hA (fun r28 w1 H locs hw hP hS => ?_)
                            subst hw
                            refine lv_iadd hx hb dX11_count_247 ?_
                            refine lv_aload_n hx hb dX11_count_248 rfl (lv_at hl 1 rfl) ?_
                            refine q_get (v := .ref (a 44)) C inX11_count_X11 hK hP 0 rfl rfl 44 (by decide) rfl LX11_count_101 rfl dX11_count_249 ?_
                            refine lv_iconst (v := 3) hx hb dX11_count_252 (by decide) ?_
                            refine q_iald (x := (s1.f 44 3)) C hK hP 28 1 rfl rfl (vp_lit (by decide +kernel)) dX11_count_253 rfl ?_
                            obtain ⟨q_, hc, hB⟩ := bindP_inv hB
                            refine q_goi0 (va_runS (As := [.int (s1.f 44 3)]) (rest := [.int ((r26 + r27) + r28)]) C (cr_bits hc _) (va_cwS 1 hts gX11_count_X11_bits rfl rfl rfl (by decide +kernel) ⟨Nat.le_of_ble_eq_true rfl, Nat.le_of_ble_eq_true rfl⟩) (q_pre0 hN hK) rfl rfl hl.1 rfl (lv_room (Nat.le_of_ble_eq_true rfl)) dX11_count_254 ⟨Nat.le_of_ble_eq_true rfl, Nat.le_of_ble_eq_true rfl⟩) hP hD hS hA (fun r29 w1 H locs hw hP hS => ?_)
                            subst hw
                            refine lv_iadd hx hb dX11_count_257 ?_
                            refine lv_aload_n hx hb dX11_count_258 rfl (lv_at hl 1 rfl) ?_
                            refine q_get (v := .ref (a 44)) C inX11_count_X11 hK hP 0 rfl rfl 44 (by decide) rfl LX11_count_101 rfl dX11_count_259 ?_
                            refine lv_iconst (v := 4) hx hb dX11_count_262 (by decide) ?_
                            refine q_iald (x := (s1.f 44 4)) C hK hP 28 1 rfl rfl (vp_lit (by decide +kernel)) dX11_count_263 rfl ?_
                            obtain ⟨q_, hc, hB⟩ := bindP_inv hB
                            refine q_goi0 (va_runS (As := [.int (s1.f 44 4)]) (rest := [.int (((r26 + r27) + r28) + r29)]) C (cr_bits hc _) (va_cwS 1 hts gX11_count_X11_bits rfl rfl rfl (by decide +kernel) ⟨Nat.le_of_ble_eq_true rfl, Nat.le_of_ble_eq_true rfl⟩) (q_pre0 hN hK) rfl rfl hl.1 rfl (lv_room (Nat.le_of_ble_eq_true rfl)) dX11_count_264 ⟨Nat.le_of_ble_eq_true rfl, Nat.le_of_ble_eq_true rfl⟩) hP hD hS hA (fun r30 w1 H locs hw hP hS => ?_)
                            subst hw
                            refine lv_iadd hx hb dX11_count_267 ?_
                            exact q_iret C hr hlocks hK hP hD hS (Nat.le_of_ble_eq_true rfl) (Nat.le_of_ble_eq_true rfl) dX11_count_268 (by cases hB; exact ⟨rfl, rfl⟩)
                          · have hB := if_n hB e25
                            by_cases e31 : x1 = 13
                            · have hB := if_p hB e31
                              refine q_top (y := 13) e31 ?_
                              refine lv_tableIn (off := 262) (tgt := 269) hx hb dX11_count_7 (by decide +kernel) (by decide +kernel) (by decide +kernel) (by decide) ?_
                              refine lv_iconst (v := 0) hx hb dX11_count_269 (by decide) ?_
                              refine lv_istore_n (lv' := [(3, .int 0), (2, .int 0), (0, .ref h), (1, .int x1)]) hx hb dX11_count_270 rfl hl (by decide) rfl (fun ls hl => ?_)
                              exact br_count_271L fu _ _ _ hB p e s0 m below meth c A E H locs ls hP hD hS (lv_sub hl [2, 1, 0] rfl)
                            · have hB := if_n hB e31
                              by_cases e32 : x1 = 14
                              · have hB := if_p hB e32
                                refine q_top (y := 14) e32 ?_
                                refine lv_tableIn (off := 302) (tgt := 309) hx hb dX11_count_7 (by decide +kernel) (by decide +kernel) (by decide +kernel) (by decide) ?_
                                refine lv_aload_n hx hb dX11_count_309 rfl (lv_at hl 1 rfl) ?_
                                obtain ⟨q_, s33, hc, hB⟩ := bindI_inv hB
                                refine q_goiF (va_runV (As := []) (rest := []) C (cr_guesses hc _) (cwV 0 hts gX11_count_X11_guesses rfl rfl rfl (by decide +kernel) ⟨Nat.le_of_ble_eq_true rfl, Nat.le_of_ble_eq_true rfl⟩) (q_preV hK hP (ci := 11) (q0 := 0) rfl rfl rfl (q_preF hN hK hP hD)) rfl rfl hl.1 rfl (lv_room (Nat.le_of_ble_eq_true rfl)) dX11_count_310 ⟨Nat.le_of_ble_eq_true rfl, Nat.le_of_ble_eq_true rfl⟩) hD hS hA (fun r34 w1 H locs hw hP hD hS => ?_)
                                obtain ⟨hq_, hw⟩ := hw; subst hw; subst hq_
                                exact q_iret C hr hlocks hK hP hD hS (Nat.le_of_ble_eq_true rfl) (Nat.le_of_ble_eq_true rfl) dX11_count_313 (by cases hB; exact ⟨rfl, rfl⟩)
                              · have hB := if_n hB e32
                                by_cases e35 : x1 = 15
                                · have hB := if_p hB e35
                                  refine q_top (y := 15) e35 ?_
                                  refine lv_tableIn (off := 307) (tgt := 314) hx hb dX11_count_7 (by decide +kernel) (by decide +kernel) (by decide +kernel) (by decide) ?_
                                  refine lv_aload_n hx hb dX11_count_314 rfl (lv_at hl 1 rfl) ?_
                                  obtain ⟨q_, s36, hc, hB⟩ := bindI_inv hB
                                  refine q_goiF (va_runV (As := []) (rest := []) C (cr_thereNumber hc _) (cwV 0 hts gX11_count_X11_thereNumber rfl rfl rfl (by decide +kernel) ⟨Nat.le_of_ble_eq_true rfl, Nat.le_of_ble_eq_true rfl⟩) (q_preV hK hP (ci := 11) (q0 := 0) rfl rfl rfl (q_preF hN hK hP hD)) rfl rfl hl.1 rfl (lv_room (Nat.le_of_ble_eq_true rfl)) dX11_count_315 ⟨Nat.le_of_ble_eq_true rfl, Nat.le_of_ble_eq_true rfl⟩) hD hS hA (fun r37 w1 H locs hw hP hD hS => ?_)
                                  obtain ⟨hq_, hw⟩ := hw; subst hw; subst hq_
                                  exact q_iret C hr hlocks hK hP hD hS (Nat.le_of_ble_eq_true rfl) (Nat.le_of_ble_eq_true rfl) dX11_count_318 (by cases hB; exact ⟨rfl, rfl⟩)
                                · have hB := if_n hB e35
                                  by_cases e38 : x1 = 16
                                  · have hB := if_p hB e38
                                    refine q_top (y := 16) e38 ?_
                                    refine lv_tableIn (off := 312) (tgt := 319) hx hb dX11_count_7 (by decide +kernel) (by decide +kernel) (by decide +kernel) (by decide) ?_
                                    refine lv_aload_n hx hb dX11_count_319 rfl (lv_at hl 1 rfl) ?_
                                    refine lv_bipush (v := 10) hx hb dX11_count_320 (by decide) ?_
                                    refine lv_iconst (v := 5) hx hb dX11_count_322 (by decide) ?_
                                    obtain ⟨q_, s39, hc, hB⟩ := bindI_inv hB
                                    refine q_goiF (va_runV (As := [.int 10, .int 5]) (rest := []) C (cr_sumNow hc _) (cwV 2 hts gX11_count_X11_sumNow rfl rfl rfl (by decide +kernel) ⟨Nat.le_of_ble_eq_true rfl, Nat.le_of_ble_eq_true rfl⟩) (q_preV hK hP (ci := 11) (q0 := 0) rfl rfl rfl (q_preF hN hK hP hD)) rfl rfl hl.1 rfl (lv_room (Nat.le_of_ble_eq_true rfl)) dX11_count_323 ⟨Nat.le_of_ble_eq_true rfl, Nat.le_of_ble_eq_true rfl⟩) hD hS hA (fun r40 w1 H locs hw hP hD hS => ?_)
                                    obtain ⟨hq_, hw⟩ := hw; subst hw; subst hq_
                                    exact q_iret C hr hlocks hK hP hD hS (Nat.le_of_ble_eq_true rfl) (Nat.le_of_ble_eq_true rfl) dX11_count_326 (by cases hB; exact ⟨rfl, rfl⟩)
                                  · have hB := if_n hB e38
                                    by_cases e41 : x1 = 17
                                    · have hB := if_p hB e41
                                      refine q_top (y := 17) e41 ?_
                                      refine lv_tableIn (off := 320) (tgt := 327) hx hb dX11_count_7 (by decide +kernel) (by decide +kernel) (by decide +kernel) (by decide) ?_
                                      refine lv_iconst (v := 0) hx hb dX11_count_327 (by decide) ?_
                                      refine lv_istore_n (lv' := [(3, .int 0), (2, .int 0), (0, .ref h), (1, .int x1)]) hx hb dX11_count_328 rfl hl (by decide) rfl (fun ls hl => ?_)
                                      exact br_count_329L fu _ _ _ hB p e s0 m below meth c A E H locs ls hP hD hS (lv_sub hl [2, 1, 0] rfl)
                                    · have hB := if_n hB e41
                                      by_cases e42 : x1 = 18
                                      · have hB := if_p hB e42
                                        refine q_top (y := 18) e42 ?_
                                        refine lv_tableIn (off := 357) (tgt := 364) hx hb dX11_count_7 (by decide +kernel) (by decide +kernel) (by decide +kernel) (by decide) ?_
                                        refine lv_iconst (v := 0) hx hb dX11_count_364 (by decide) ?_
                                        refine lv_istore_n (lv' := [(3, .int 0), (2, .int 0), (0, .ref h), (1, .int x1)]) hx hb dX11_count_365 rfl hl (by decide) rfl (fun ls hl => ?_)
                                        exact br_count_366L fu _ _ _ hB p e s0 m below meth c A E H locs ls hP hD hS (lv_sub hl [2, 1, 0] rfl)
                                      · have hB := if_n hB e42
                                        refine lv_tableOut (tgt := 403) hx hb dX11_count_7 (by have := ne_toInt (k := 0) rfl e2; have := ne_toInt (k := 1) rfl e4; have := ne_toInt (k := 2) rfl e6; have := ne_toInt (k := 3) rfl e7; have := ne_toInt (k := 4) rfl e8; have := ne_toInt (k := 5) rfl e11; have := ne_toInt (k := 6) rfl e14; have := ne_toInt (k := 7) rfl e17; have := ne_toInt (k := 8) rfl e20; have := ne_toInt (k := 9) rfl e21; have := ne_toInt (k := 10) rfl e22; have := ne_toInt (k := 11) rfl e23; have := ne_toInt (k := 12) rfl e25; have := ne_toInt (k := 13) rfl e31; have := ne_toInt (k := 14) rfl e32; have := ne_toInt (k := 15) rfl e35; have := ne_toInt (k := 16) rfl e38; have := ne_toInt (k := 17) rfl e41; have := ne_toInt (k := 18) rfl e42; omega) (by decide) ?_
                                        refine lv_iconst (v := (-1)) hx hb dX11_count_403 (by decide) ?_
                                        exact q_iret C hr hlocks hK hP hD hS (Nat.le_of_ble_eq_true rfl) (Nat.le_of_ble_eq_true rfl) dX11_count_404 (by cases hB; exact ⟨rfl, rfl⟩)
theorem cr_count {l : Launch} {dC : Nat → ClassId} {dI : Nat → Nat → Nat} {cB cI cJ cZ cS : ClassId} {h : Nat} {a : Nat → Nat} {r : Int32} {s' : RS} {s : RS} {x1 : Int32} (hB : r_count s x1 = some (r, s')) : CI l yX11_count wsX11_count ({ frames := 4, cells := 0, slots := 0, locals := 90 }) (dC, dI) (tysA cB cI cJ cZ cS) (mwS cB cI cJ cZ h a s) [.ref h, .int x1] (fun x u => x = r ∧ u = (mwS cB cI cJ cZ h a s')) :=
  CI_of (cc := cX11_count) (maxL := 4) (ret := (some .int)) (by decide) rfl (Nat.le_of_ble_eq_true rfl) (br_count _ _ hB)
end
