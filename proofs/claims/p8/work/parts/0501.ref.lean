theorem dX11_is_0 : decode cX11_is 0 = .ok (.aload_n 0, 1) := dc1_42 (by decide +kernel)
theorem dX11_is_1 : decode cX11_is 1 = .ok (.getfield 185, 3) := dcw_180 (by decide +kernel)
theorem dX11_is_4 : decode cX11_is 4 = .ok (.ifCond .ne 20, 3) := dcs_154 (n := 20) (by decide +kernel)
theorem dX11_is_7 : decode cX11_is 7 = .ok (.aload_n 0, 1) := dc1_42 (by decide +kernel)
theorem dX11_is_8 : decode cX11_is 8 = .ok (.getfield 20, 3) := dcw_180 (by decide +kernel)
theorem dX11_is_11 : decode cX11_is 11 = .ok (.aload_n 0, 1) := dc1_42 (by decide +kernel)
theorem dX11_is_12 : decode cX11_is 12 = .ok (.getfield 188, 3) := dcw_180 (by decide +kernel)
theorem dX11_is_15 : decode cX11_is 15 = .ok (.iaload, 1) := dc1_46 (by decide +kernel)
theorem dX11_is_16 : decode cX11_is 16 = .ok (.iload_n 1, 1) := dc1_27 (by decide +kernel)
theorem dX11_is_17 : decode cX11_is 17 = .ok (.if_icmp .ne 7, 3) := dcs_160 (n := 7) (by decide +kernel)
theorem dX11_is_20 : decode cX11_is 20 = .ok (.iconst 1, 1) := dc1_4 (by decide +kernel)
theorem dX11_is_21 : decode cX11_is 21 = .ok (.goto 4, 3) := dcs_167 (n := 4) (by decide +kernel)
theorem dX11_is_24 : decode cX11_is 24 = .ok (.iconst 0, 1) := dc1_3 (by decide +kernel)
theorem dX11_is_25 : decode cX11_is 25 = .ok (.ireturn, 1) := dc1_172 (by decide +kernel)
theorem dX11_fail_0 : decode cX11_fail 0 = .ok (.aload_n 0, 1) := dc1_42 (by decide +kernel)
theorem dX11_fail_1 : decode cX11_fail 1 = .ok (.getfield 185, 3) := dcw_180 (by decide +kernel)
theorem dX11_fail_4 : decode cX11_fail 4 = .ok (.ifCond .le 4, 3) := dcs_158 (n := 4) (by decide +kernel)
theorem dX11_fail_7 : decode cX11_fail 7 = .ok (.return_, 1) := dc1_177 (by decide +kernel)
theorem dX11_fail_8 : decode cX11_fail 8 = .ok (.aload_n 0, 1) := dc1_42 (by decide +kernel)
theorem dX11_fail_9 : decode cX11_fail 9 = .ok (.iload_n 1, 1) := dc1_27 (by decide +kernel)
theorem dX11_fail_10 : decode cX11_fail 10 = .ok (.putfield 185, 3) := dcw_181 (by decide +kernel)
theorem dX11_fail_13 : decode cX11_fail 13 = .ok (.aload_n 0, 1) := dc1_42 (by decide +kernel)
theorem dX11_fail_14 : decode cX11_fail 14 = .ok (.aload_n 0, 1) := dc1_42 (by decide +kernel)
theorem dX11_fail_15 : decode cX11_fail 15 = .ok (.getfield 24, 3) := dcw_180 (by decide +kernel)
theorem dX11_fail_18 : decode cX11_fail 18 = .ok (.aload_n 0, 1) := dc1_42 (by decide +kernel)
theorem dX11_fail_19 : decode cX11_fail 19 = .ok (.getfield 188, 3) := dcw_180 (by decide +kernel)
theorem dX11_fail_22 : decode cX11_fail 22 = .ok (.iaload, 1) := dc1_46 (by decide +kernel)
theorem dX11_fail_23 : decode cX11_fail 23 = .ok (.putfield 191, 3) := dcw_181 (by decide +kernel)
theorem dX11_fail_26 : decode cX11_fail 26 = .ok (.return_, 1) := dc1_177 (by decide +kernel)
theorem dX11_wrong_0 : decode cX11_wrong 0 = .ok (.aload_n 0, 1) := dc1_42 (by decide +kernel)
theorem dX11_wrong_1 : decode cX11_wrong 1 = .ok (.getfield 24, 3) := dcw_180 (by decide +kernel)
theorem dX11_wrong_4 : decode cX11_wrong 4 = .ok (.iload_n 2, 1) := dc1_28 (by decide +kernel)
theorem dX11_wrong_5 : decode cX11_wrong 5 = .ok (.iaload, 1) := dc1_46 (by decide +kernel)
theorem dX11_wrong_6 : decode cX11_wrong 6 = .ok (.istore_n 3, 1) := dc1_62 (by decide +kernel)
theorem dX11_wrong_7 : decode cX11_wrong 7 = .ok (.aload_n 0, 1) := dc1_42 (by decide +kernel)
theorem dX11_wrong_8 : decode cX11_wrong 8 = .ok (.getfield 185, 3) := dcw_180 (by decide +kernel)
theorem dX11_wrong_11 : decode cX11_wrong 11 = .ok (.ifCond .gt 34, 3) := dcs_157 (n := 34) (by decide +kernel)
theorem dX11_wrong_14 : decode cX11_wrong 14 = .ok (.aload_n 0, 1) := dc1_42 (by decide +kernel)
theorem dX11_wrong_15 : decode cX11_wrong 15 = .ok (.getfield 194, 3) := dcw_180 (by decide +kernel)
theorem dX11_wrong_18 : decode cX11_wrong 18 = .ok (.ifCond .eq 28, 3) := dcs_153 (n := 28) (by decide +kernel)
theorem dX11_wrong_21 : decode cX11_wrong 21 = .ok (.iload_n 3, 1) := dc1_29 (by decide +kernel)
theorem dX11_wrong_22 : decode cX11_wrong 22 = .ok (.aload_n 0, 1) := dc1_42 (by decide +kernel)
theorem dX11_wrong_23 : decode cX11_wrong 23 = .ok (.getfield 197, 3) := dcw_180 (by decide +kernel)
theorem dX11_wrong_26 : decode cX11_wrong 26 = .ok (.if_icmp .gt 19, 3) := dcs_163 (n := 19) (by decide +kernel)
theorem dX11_wrong_29 : decode cX11_wrong 29 = .ok (.iload_n 3, 1) := dc1_29 (by decide +kernel)
theorem dX11_wrong_30 : decode cX11_wrong 30 = .ok (.aload_n 0, 1) := dc1_42 (by decide +kernel)
theorem dX11_wrong_31 : decode cX11_wrong 31 = .ok (.getfield 197, 3) := dcw_180 (by decide +kernel)
theorem dX11_wrong_34 : decode cX11_wrong 34 = .ok (.if_icmp .ne 12, 3) := dcs_160 (n := 12) (by decide +kernel)
theorem dX11_wrong_37 : decode cX11_wrong 37 = .ok (.iload_n 1, 1) := dc1_27 (by decide +kernel)
theorem dX11_wrong_38 : decode cX11_wrong 38 = .ok (.aload_n 0, 1) := dc1_42 (by decide +kernel)
theorem dX11_wrong_39 : decode cX11_wrong 39 = .ok (.getfield 194, 3) := dcw_180 (by decide +kernel)
theorem dX11_wrong_42 : decode cX11_wrong 42 = .ok (.if_icmp .lt 4, 3) := dcs_161 (n := 4) (by decide +kernel)
theorem dX11_wrong_45 : decode cX11_wrong 45 = .ok (.return_, 1) := dc1_177 (by decide +kernel)
theorem dX11_wrong_46 : decode cX11_wrong 46 = .ok (.aload_n 0, 1) := dc1_42 (by decide +kernel)
theorem dX11_wrong_47 : decode cX11_wrong 47 = .ok (.iload_n 1, 1) := dc1_27 (by decide +kernel)
theorem dX11_wrong_48 : decode cX11_wrong 48 = .ok (.putfield 194, 3) := dcw_181 (by decide +kernel)
theorem dX11_wrong_51 : decode cX11_wrong 51 = .ok (.aload_n 0, 1) := dc1_42 (by decide +kernel)
theorem dX11_wrong_52 : decode cX11_wrong 52 = .ok (.iload_n 3, 1) := dc1_29 (by decide +kernel)
theorem dX11_wrong_53 : decode cX11_wrong 53 = .ok (.putfield 197, 3) := dcw_181 (by decide +kernel)
theorem dX11_wrong_56 : decode cX11_wrong 56 = .ok (.return_, 1) := dc1_177 (by decide +kernel)
theorem ggX11_goesOn_X11_fail : GoodIn wsX11_goesOn wsX11_fail := gi_sub (fun w h => List.mem_cons_of_mem _ (List.mem_append_left _ (List.mem_append_right _ h))) gd_wsX11_fail
set_option maxRecDepth 20000 in
theorem gX11_goesOn_X11_fail : GoodIn wsX11_goesOn (wsV RX11 200 RX11 yX11_fail wsX11_fail) := goodIn_app (goodIn_r _ [2, 3, 4, 5] (by decide +kernel) (by decide +kernel)) ggX11_goesOn_X11_fail
theorem dX11_goesOn_0 : decode cX11_goesOn 0 = .ok (.aload_n 0, 1) := dc1_42 (by decide +kernel)
theorem dX11_goesOn_1 : decode cX11_goesOn 1 = .ok (.getfield 188, 3) := dcw_180 (by decide +kernel)
theorem dX11_goesOn_4 : decode cX11_goesOn 4 = .ok (.sipush 400, 3) := dcs_17 (n := 400) (by decide +kernel)
theorem dX11_goesOn_7 : decode cX11_goesOn 7 = .ok (.if_icmp .ne 11, 3) := dcs_160 (n := 11) (by decide +kernel)
theorem dX11_goesOn_10 : decode cX11_goesOn 10 = .ok (.aload_n 0, 1) := dc1_42 (by decide +kernel)
theorem dX11_goesOn_11 : decode cX11_goesOn 11 = .ok (.iconst 2, 1) := dc1_5 (by decide +kernel)
theorem dX11_goesOn_12 : decode cX11_goesOn 12 = .ok (.invokevirtual 200, 3) := dcw_182 (by decide +kernel)
theorem dX11_goesOn_15 : decode cX11_goesOn 15 = .ok (.goto 13, 3) := dcs_167 (n := 13) (by decide +kernel)
theorem dX11_goesOn_18 : decode cX11_goesOn 18 = .ok (.aload_n 0, 1) := dc1_42 (by decide +kernel)
theorem dX11_goesOn_19 : decode cX11_goesOn 19 = .ok (.dup, 1) := dc1_89 (by decide +kernel)
theorem dX11_goesOn_20 : decode cX11_goesOn 20 = .ok (.getfield 188, 3) := dcw_180 (by decide +kernel)
theorem dX11_goesOn_23 : decode cX11_goesOn 23 = .ok (.iconst 1, 1) := dc1_4 (by decide +kernel)
theorem dX11_goesOn_24 : decode cX11_goesOn 24 = .ok (.iadd, 1) := dc1_96 (by decide +kernel)
theorem dX11_goesOn_25 : decode cX11_goesOn 25 = .ok (.putfield 188, 3) := dcw_181 (by decide +kernel)
theorem dX11_goesOn_28 : decode cX11_goesOn 28 = .ok (.return_, 1) := dc1_177 (by decide +kernel)
theorem ggX11_must_X11_is : GoodIn wsX11_must wsX11_is := gi_sub (fun w h => List.mem_cons_of_mem _ (List.mem_append_left _ (List.mem_append_right _ (List.mem_append_left _ h)))) gd_wsX11_is
set_option maxRecDepth 20000 in
theorem gX11_must_X11_is : GoodIn wsX11_must (wsV RX11 203 RX11 yX11_is wsX11_is) := goodIn_app (goodIn_r _ [1, 2, 3, 4] (by decide +kernel) (by decide +kernel)) ggX11_must_X11_is
theorem ggX11_must_X11_goesOn : GoodIn wsX11_must wsX11_goesOn := gi_sub (fun w h => List.mem_cons_of_mem _ (List.mem_append_left _ (List.mem_append_right _ (List.mem_append_right _ (List.mem_append_left _ h))))) gd_wsX11_goesOn
set_option maxRecDepth 20000 in
theorem gX11_must_X11_goesOn : GoodIn wsX11_must (wsV RX11 206 RX11 yX11_goesOn wsX11_goesOn) := goodIn_app (goodIn_r _ [5, 6, 7, 4] (by decide +kernel) (by decide +kernel)) ggX11_must_X11_goesOn
theorem ggX11_must_X11_fail : GoodIn wsX11_must wsX11_fail := gi_sub (fun w h => List.mem_cons_of_mem _ (List.mem_append_left _ (List.mem_append_right _ (List.mem_append_right _ (List.mem_append_right _ h))))) gd_wsX11_fail
set_option maxRecDepth 20000 in
theorem gX11_must_X11_fail : GoodIn wsX11_must (wsV RX11 200 RX11 yX11_fail wsX11_fail) := goodIn_app (goodIn_r _ [8, 9, 10, 4] (by decide +kernel) (by decide +kernel)) ggX11_must_X11_fail
theorem dX11_must_0 : decode cX11_must 0 = .ok (.aload_n 0, 1) := dc1_42 (by decide +kernel)
theorem dX11_must_1 : decode cX11_must 1 = .ok (.iload_n 1, 1) := dc1_27 (by decide +kernel)
theorem dX11_must_2 : decode cX11_must 2 = .ok (.invokevirtual 203, 3) := dcw_182 (by decide +kernel)
theorem dX11_must_5 : decode cX11_must 5 = .ok (.ifCond .eq 10, 3) := dcs_153 (n := 10) (by decide +kernel)
theorem dX11_must_8 : decode cX11_must 8 = .ok (.aload_n 0, 1) := dc1_42 (by decide +kernel)
theorem dX11_must_9 : decode cX11_must 9 = .ok (.invokevirtual 206, 3) := dcw_182 (by decide +kernel)
theorem dX11_must_12 : decode cX11_must 12 = .ok (.goto 8, 3) := dcs_167 (n := 8) (by decide +kernel)
theorem dX11_must_15 : decode cX11_must 15 = .ok (.aload_n 0, 1) := dc1_42 (by decide +kernel)
theorem dX11_must_16 : decode cX11_must 16 = .ok (.iconst 1, 1) := dc1_4 (by decide +kernel)
theorem dX11_must_17 : decode cX11_must 17 = .ok (.invokevirtual 200, 3) := dcw_182 (by decide +kernel)
theorem dX11_must_20 : decode cX11_must 20 = .ok (.return_, 1) := dc1_177 (by decide +kernel)
theorem dX11_plain_0 : decode cX11_plain 0 = .ok (.aload_n 0, 1) := dc1_42 (by decide +kernel)
theorem dX11_plain_1 : decode cX11_plain 1 = .ok (.getfield 40, 3) := dcw_180 (by decide +kernel)
theorem dX11_plain_4 : decode cX11_plain 4 = .ok (.iload_n 1, 1) := dc1_27 (by decide +kernel)
theorem dX11_plain_5 : decode cX11_plain 5 = .ok (.iconst 0, 1) := dc1_3 (by decide +kernel)
theorem dX11_plain_6 : decode cX11_plain 6 = .ok (.iastore, 1) := dc1_79 (by decide +kernel)
theorem dX11_plain_7 : decode cX11_plain 7 = .ok (.aload_n 0, 1) := dc1_42 (by decide +kernel)
theorem dX11_plain_8 : decode cX11_plain 8 = .ok (.getfield 49, 3) := dcw_180 (by decide +kernel)
theorem dX11_plain_11 : decode cX11_plain 11 = .ok (.iload_n 1, 1) := dc1_27 (by decide +kernel)
theorem dX11_plain_12 : decode cX11_plain 12 = .ok (.iconst 0, 1) := dc1_3 (by decide +kernel)
theorem dX11_plain_13 : decode cX11_plain 13 = .ok (.iastore, 1) := dc1_79 (by decide +kernel)
theorem dX11_plain_14 : decode cX11_plain 14 = .ok (.aload_n 0, 1) := dc1_42 (by decide +kernel)
theorem dX11_plain_15 : decode cX11_plain 15 = .ok (.getfield 58, 3) := dcw_180 (by decide +kernel)
theorem dX11_plain_18 : decode cX11_plain 18 = .ok (.iload_n 1, 1) := dc1_27 (by decide +kernel)
theorem dX11_plain_19 : decode cX11_plain 19 = .ok (.iconst 0, 1) := dc1_3 (by decide +kernel)
theorem dX11_plain_20 : decode cX11_plain 20 = .ok (.iastore, 1) := dc1_79 (by decide +kernel)
theorem dX11_plain_21 : decode cX11_plain 21 = .ok (.iconst 0, 1) := dc1_3 (by decide +kernel)
theorem dX11_plain_22 : decode cX11_plain 22 = .ok (.istore_n 2, 1) := dc1_61 (by decide +kernel)
theorem dX11_plain_23 : decode cX11_plain 23 = .ok (.iload_n 2, 1) := dc1_28 (by decide +kernel)
theorem dX11_plain_24 : decode cX11_plain 24 = .ok (.iconst 4, 1) := dc1_7 (by decide +kernel)
theorem dX11_plain_25 : decode cX11_plain 25 = .ok (.if_icmp .ge 31, 3) := dcs_162 (n := 31) (by decide +kernel)
theorem dX11_plain_28 : decode cX11_plain 28 = .ok (.aload_n 0, 1) := dc1_42 (by decide +kernel)
theorem dX11_plain_29 : decode cX11_plain 29 = .ok (.getfield 61, 3) := dcw_180 (by decide +kernel)
theorem dX11_plain_32 : decode cX11_plain 32 = .ok (.iconst 4, 1) := dc1_7 (by decide +kernel)
theorem dX11_plain_33 : decode cX11_plain 33 = .ok (.iload_n 1, 1) := dc1_27 (by decide +kernel)
theorem dX11_plain_34 : decode cX11_plain 34 = .ok (.imul, 1) := dc1_104 (by decide +kernel)
theorem dX11_plain_35 : decode cX11_plain 35 = .ok (.iload_n 2, 1) := dc1_28 (by decide +kernel)
theorem dX11_plain_36 : decode cX11_plain 36 = .ok (.iadd, 1) := dc1_96 (by decide +kernel)
theorem dX11_plain_37 : decode cX11_plain 37 = .ok (.iconst 0, 1) := dc1_3 (by decide +kernel)
theorem dX11_plain_38 : decode cX11_plain 38 = .ok (.iastore, 1) := dc1_79 (by decide +kernel)
theorem dX11_plain_39 : decode cX11_plain 39 = .ok (.aload_n 0, 1) := dc1_42 (by decide +kernel)
theorem dX11_plain_40 : decode cX11_plain 40 = .ok (.getfield 64, 3) := dcw_180 (by decide +kernel)
theorem dX11_plain_43 : decode cX11_plain 43 = .ok (.iconst 4, 1) := dc1_7 (by decide +kernel)
theorem dX11_plain_44 : decode cX11_plain 44 = .ok (.iload_n 1, 1) := dc1_27 (by decide +kernel)
theorem dX11_plain_45 : decode cX11_plain 45 = .ok (.imul, 1) := dc1_104 (by decide +kernel)
theorem dX11_plain_46 : decode cX11_plain 46 = .ok (.iload_n 2, 1) := dc1_28 (by decide +kernel)
theorem dX11_plain_47 : decode cX11_plain 47 = .ok (.iadd, 1) := dc1_96 (by decide +kernel)
theorem dX11_plain_48 : decode cX11_plain 48 = .ok (.iconst 0, 1) := dc1_3 (by decide +kernel)
theorem dX11_plain_49 : decode cX11_plain 49 = .ok (.iastore, 1) := dc1_79 (by decide +kernel)
theorem dX11_plain_50 : decode cX11_plain 50 = .ok (.iinc 2 1, 3) := dc_iinc (m := 1) (by decide +kernel)
theorem dX11_plain_53 : decode cX11_plain 53 = .ok (.goto (-30), 3) := dcs_167 (n := 65506) (by decide +kernel)
theorem dX11_plain_56 : decode cX11_plain 56 = .ok (.return_, 1) := dc1_177 (by decide +kernel)
theorem ggX11_roomFor_X11_fail : GoodIn wsX11_roomFor wsX11_fail := gi_sub (fun w h => List.mem_cons_of_mem _ (List.mem_append_left _ (List.mem_append_right _ (List.mem_append_left _ h)))) gd_wsX11_fail
set_option maxRecDepth 20000 in
theorem gX11_roomFor_X11_fail : GoodIn wsX11_roomFor (wsV RX11 200 RX11 yX11_fail wsX11_fail) := goodIn_app (goodIn_r _ [2, 3, 4, 5] (by decide +kernel) (by decide +kernel)) ggX11_roomFor_X11_fail
theorem ggX11_roomFor_X11_goesOn : GoodIn wsX11_roomFor wsX11_goesOn := gi_sub (fun w h => List.mem_cons_of_mem _ (List.mem_append_left _ (List.mem_append_right _ (List.mem_append_right _ h)))) gd_wsX11_goesOn
set_option maxRecDepth 20000 in
theorem gX11_roomFor_X11_goesOn : GoodIn wsX11_roomFor (wsV RX11 206 RX11 yX11_goesOn wsX11_goesOn) := goodIn_app (goodIn_r _ [6, 7, 8, 5] (by decide +kernel) (by decide +kernel)) ggX11_roomFor_X11_goesOn
theorem dX11_roomFor_0 : decode cX11_roomFor 0 = .ok (.iload_n 1, 1) := dc1_27 (by decide +kernel)
theorem dX11_roomFor_1 : decode cX11_roomFor 1 = .ok (.iload_n 2, 1) := dc1_28 (by decide +kernel)
theorem dX11_roomFor_2 : decode cX11_roomFor 2 = .ok (.if_icmp .ne 8, 3) := dcs_160 (n := 8) (by decide +kernel)
theorem dX11_roomFor_5 : decode cX11_roomFor 5 = .ok (.aload_n 0, 1) := dc1_42 (by decide +kernel)
theorem dX11_roomFor_6 : decode cX11_roomFor 6 = .ok (.iconst 2, 1) := dc1_5 (by decide +kernel)
theorem dX11_roomFor_7 : decode cX11_roomFor 7 = .ok (.invokevirtual 200, 3) := dcw_182 (by decide +kernel)
theorem dX11_roomFor_10 : decode cX11_roomFor 10 = .ok (.aload_n 0, 1) := dc1_42 (by decide +kernel)
theorem dX11_roomFor_11 : decode cX11_roomFor 11 = .ok (.getfield 185, 3) := dcw_180 (by decide +kernel)
theorem dX11_roomFor_14 : decode cX11_roomFor 14 = .ok (.ifCond .ne 7, 3) := dcs_154 (n := 7) (by decide +kernel)
theorem dX11_roomFor_17 : decode cX11_roomFor 17 = .ok (.aload_n 0, 1) := dc1_42 (by decide +kernel)
theorem dX11_roomFor_18 : decode cX11_roomFor 18 = .ok (.invokevirtual 206, 3) := dcw_182 (by decide +kernel)
theorem dX11_roomFor_21 : decode cX11_roomFor 21 = .ok (.return_, 1) := dc1_177 (by decide +kernel)
theorem ggX11_bounded_X11_is : GoodIn wsX11_bounded wsX11_is := gi_sub (fun w h => List.mem_cons_of_mem _ (List.mem_append_left _ (List.mem_append_right _ (List.mem_append_left _ h)))) gd_wsX11_is
set_option maxRecDepth 20000 in
theorem gX11_bounded_X11_is : GoodIn wsX11_bounded (wsV RX11 203 RX11 yX11_is wsX11_is) := goodIn_app (goodIn_r _ [4, 5, 6, 7] (by decide +kernel) (by decide +kernel)) ggX11_bounded_X11_is
theorem ggX11_bounded_X11_fail : GoodIn wsX11_bounded wsX11_fail := gi_sub (fun w h => List.mem_cons_of_mem _ (List.mem_append_left _ (List.mem_append_right _ (List.mem_append_right _ (List.mem_append_left _ h))))) gd_wsX11_fail
set_option maxRecDepth 20000 in
theorem gX11_bounded_X11_fail : GoodIn wsX11_bounded (wsV RX11 200 RX11 yX11_fail wsX11_fail) := goodIn_app (goodIn_r _ [8, 9, 10, 7] (by decide +kernel) (by decide +kernel)) ggX11_bounded_X11_fail
theorem ggX11_bounded_X11_wrong : GoodIn wsX11_bounded wsX11_wrong := gi_sub (fun w h => List.mem_cons_of_mem _ (List.mem_append_left _ (List.mem_append_right _ (List.mem_append_right _ (List.mem_append_right _ (List.mem_append_left _ h)))))) gd_wsX11_wrong
set_option maxRecDepth 20000 in
theorem gX11_bounded_X11_wrong : GoodIn wsX11_bounded (wsV RX11 255 RX11 yX11_wrong wsX11_wrong) := goodIn_app (goodIn_r _ [11, 12, 13, 7] (by decide +kernel) (by decide +kernel)) ggX11_bounded_X11_wrong
theorem ggX11_bounded_X11_goesOn : GoodIn wsX11_bounded wsX11_goesOn := gi_sub (fun w h => List.mem_cons_of_mem _ (List.mem_append_left _ (List.mem_append_right _ (List.mem_append_right _ (List.mem_append_right _ (List.mem_append_right _ h)))))) gd_wsX11_goesOn
set_option maxRecDepth 20000 in
theorem gX11_bounded_X11_goesOn : GoodIn wsX11_bounded (wsV RX11 206 RX11 yX11_goesOn wsX11_goesOn) := goodIn_app (goodIn_r _ [14, 15, 16, 7] (by decide +kernel) (by decide +kernel)) ggX11_bounded_X11_goesOn
theorem dX11_bounded_0 : decode cX11_bounded 0 = .ok (.aload_n 0, 1) := dc1_42 (by decide +kernel)
theorem dX11_bounded_1 : decode cX11_bounded 1 = .ok (.getfield 185, 3) := dcw_180 (by decide +kernel)
theorem dX11_bounded_4 : decode cX11_bounded 4 = .ok (.ifCond .gt 11, 3) := dcs_157 (n := 11) (by decide +kernel)
theorem dX11_bounded_7 : decode cX11_bounded 7 = .ok (.aload_n 0, 1) := dc1_42 (by decide +kernel)
theorem dX11_bounded_8 : decode cX11_bounded 8 = .ok (.iconst 2, 1) := dc1_5 (by decide +kernel)
theorem dX11_bounded_9 : decode cX11_bounded 9 = .ok (.invokevirtual 203, 3) := dcw_182 (by decide +kernel)
theorem dX11_bounded_12 : decode cX11_bounded 12 = .ok (.ifCond .ne 10, 3) := dcs_154 (n := 10) (by decide +kernel)
theorem dX11_bounded_15 : decode cX11_bounded 15 = .ok (.aload_n 0, 1) := dc1_42 (by decide +kernel)
theorem dX11_bounded_16 : decode cX11_bounded 16 = .ok (.iconst 1, 1) := dc1_4 (by decide +kernel)
theorem dX11_bounded_17 : decode cX11_bounded 17 = .ok (.invokevirtual 200, 3) := dcw_182 (by decide +kernel)
theorem dX11_bounded_20 : decode cX11_bounded 20 = .ok (.iconst 0, 1) := dc1_3 (by decide +kernel)
theorem dX11_bounded_21 : decode cX11_bounded 21 = .ok (.ireturn, 1) := dc1_172 (by decide +kernel)
theorem dX11_bounded_22 : decode cX11_bounded 22 = .ok (.aload_n 0, 1) := dc1_42 (by decide +kernel)
theorem dX11_bounded_23 : decode cX11_bounded 23 = .ok (.getfield 27, 3) := dcw_180 (by decide +kernel)
theorem dX11_bounded_26 : decode cX11_bounded 26 = .ok (.aload_n 0, 1) := dc1_42 (by decide +kernel)
theorem dX11_bounded_27 : decode cX11_bounded 27 = .ok (.getfield 188, 3) := dcw_180 (by decide +kernel)
theorem dX11_bounded_30 : decode cX11_bounded 30 = .ok (.iaload, 1) := dc1_46 (by decide +kernel)
theorem dX11_bounded_31 : decode cX11_bounded 31 = .ok (.istore_n 2, 1) := dc1_61 (by decide +kernel)
theorem dX11_bounded_32 : decode cX11_bounded 32 = .ok (.iload_n 2, 1) := dc1_28 (by decide +kernel)
theorem dX11_bounded_33 : decode cX11_bounded 33 = .ok (.iload_n 1, 1) := dc1_27 (by decide +kernel)
theorem dX11_bounded_34 : decode cX11_bounded 34 = .ok (.if_icmp .le 12, 3) := dcs_164 (n := 12) (by decide +kernel)
theorem dX11_bounded_37 : decode cX11_bounded 37 = .ok (.aload_n 0, 1) := dc1_42 (by decide +kernel)
theorem dX11_bounded_38 : decode cX11_bounded 38 = .ok (.iconst 5, 1) := dc1_8 (by decide +kernel)
theorem dX11_bounded_39 : decode cX11_bounded 39 = .ok (.aload_n 0, 1) := dc1_42 (by decide +kernel)
theorem dX11_bounded_40 : decode cX11_bounded 40 = .ok (.getfield 188, 3) := dcw_180 (by decide +kernel)
theorem dX11_bounded_43 : decode cX11_bounded 43 = .ok (.invokevirtual 255, 3) := dcw_182 (by decide +kernel)
theorem dX11_bounded_46 : decode cX11_bounded 46 = .ok (.aload_n 0, 1) := dc1_42 (by decide +kernel)
theorem dX11_bounded_47 : decode cX11_bounded 47 = .ok (.invokevirtual 206, 3) := dcw_182 (by decide +kernel)
theorem dX11_bounded_50 : decode cX11_bounded 50 = .ok (.iload_n 2, 1) := dc1_28 (by decide +kernel)
theorem dX11_bounded_51 : decode cX11_bounded 51 = .ok (.ireturn, 1) := dc1_172 (by decide +kernel)
theorem ggX11_tellWave_X11_bounded : GoodIn wsX11_tellWave wsX11_bounded := gi_sub (fun w h => List.mem_cons_of_mem _ (List.mem_append_left _ (List.mem_append_right _ (List.mem_append_left _ h)))) gd_wsX11_bounded
set_option maxRecDepth 20000 in
theorem gX11_tellWave_X11_bounded : GoodIn wsX11_tellWave (wsV RX11 246 RX11 yX11_bounded wsX11_bounded) := goodIn_app (goodIn_r _ [6, 7, 8, 9] (by decide +kernel) (by decide +kernel)) ggX11_tellWave_X11_bounded
theorem ggX11_tellWave_X11_wrong : GoodIn wsX11_tellWave wsX11_wrong := gi_sub (fun w h => List.mem_cons_of_mem _ (List.mem_append_left _ (List.mem_append_right _ (List.mem_append_right _ (List.mem_append_left _ h))))) gd_wsX11_wrong
set_option maxRecDepth 20000 in
theorem gX11_tellWave_X11_wrong : GoodIn wsX11_tellWave (wsV RX11 255 RX11 yX11_wrong wsX11_wrong) := goodIn_app (goodIn_r _ [10, 11, 12, 9] (by decide +kernel) (by decide +kernel)) ggX11_tellWave_X11_wrong
theorem ggX11_tellWave_X11_must : GoodIn wsX11_tellWave wsX11_must := gi_sub (fun w h => List.mem_cons_of_mem _ (List.mem_append_left _ (List.mem_append_right _ (List.mem_append_right _ (List.mem_append_right _ h))))) gd_wsX11_must
set_option maxRecDepth 20000 in
theorem gX11_tellWave_X11_must : GoodIn wsX11_tellWave (wsV RX11 249 RX11 yX11_must wsX11_must) := goodIn_app (goodIn_r _ [13, 14, 15, 9] (by decide +kernel) (by decide +kernel)) ggX11_tellWave_X11_must
theorem dX11_tellWave_0 : decode cX11_tellWave 0 = .ok (.bipush 30, 2) := dcb_16 (n := 30) (by decide +kernel)
theorem dX11_tellWave_2 : decode cX11_tellWave 2 = .ok (.aload_n 0, 1) := dc1_42 (by decide +kernel)
theorem dX11_tellWave_3 : decode cX11_tellWave 3 = .ok (.getfield 218, 3) := dcw_180 (by decide +kernel)
theorem dX11_tellWave_6 : decode cX11_tellWave 6 = .ok (.imul, 1) := dc1_104 (by decide +kernel)
theorem dX11_tellWave_7 : decode cX11_tellWave 7 = .ok (.bipush 6, 2) := dcb_16 (n := 6) (by decide +kernel)
theorem dX11_tellWave_9 : decode cX11_tellWave 9 = .ok (.aload_n 0, 1) := dc1_42 (by decide +kernel)
theorem dX11_tellWave_10 : decode cX11_tellWave 10 = .ok (.getfield 40, 3) := dcw_180 (by decide +kernel)
theorem dX11_tellWave_13 : decode cX11_tellWave 13 = .ok (.aload_n 0, 1) := dc1_42 (by decide +kernel)
theorem dX11_tellWave_14 : decode cX11_tellWave 14 = .ok (.getfield 218, 3) := dcw_180 (by decide +kernel)
theorem dX11_tellWave_17 : decode cX11_tellWave 17 = .ok (.iaload, 1) := dc1_46 (by decide +kernel)
theorem dX11_tellWave_18 : decode cX11_tellWave 18 = .ok (.imul, 1) := dc1_104 (by decide +kernel)
theorem dX11_tellWave_19 : decode cX11_tellWave 19 = .ok (.iadd, 1) := dc1_96 (by decide +kernel)
theorem dX11_tellWave_20 : decode cX11_tellWave 20 = .ok (.istore_n 1, 1) := dc1_60 (by decide +kernel)
theorem dX11_tellWave_21 : decode cX11_tellWave 21 = .ok (.iconst 0, 1) := dc1_3 (by decide +kernel)
theorem dX11_tellWave_22 : decode cX11_tellWave 22 = .ok (.istore_n 2, 1) := dc1_61 (by decide +kernel)
theorem dX11_tellWave_23 : decode cX11_tellWave 23 = .ok (.aload_n 0, 1) := dc1_42 (by decide +kernel)
theorem dX11_tellWave_24 : decode cX11_tellWave 24 = .ok (.getfield 188, 3) := dcw_180 (by decide +kernel)
theorem dX11_tellWave_27 : decode cX11_tellWave 27 = .ok (.istore_n 3, 1) := dc1_62 (by decide +kernel)
theorem dX11_tellWave_28 : decode cX11_tellWave 28 = .ok (.iconst 0, 1) := dc1_3 (by decide +kernel)
theorem dX11_tellWave_29 : decode cX11_tellWave 29 = .ok (.istore 4, 2) := dcu_54 (by decide +kernel)
theorem dX11_tellWave_31 : decode cX11_tellWave 31 = .ok (.iload 4, 2) := dcu_21 (by decide +kernel)
theorem dX11_tellWave_33 : decode cX11_tellWave 33 = .ok (.bipush 6, 2) := dcb_16 (n := 6) (by decide +kernel)
theorem dX11_tellWave_35 : decode cX11_tellWave 35 = .ok (.if_icmp .ge 41, 3) := dcs_162 (n := 41) (by decide +kernel)
theorem dX11_tellWave_38 : decode cX11_tellWave 38 = .ok (.aload_n 0, 1) := dc1_42 (by decide +kernel)
theorem dX11_tellWave_39 : decode cX11_tellWave 39 = .ok (.getfield 188, 3) := dcw_180 (by decide +kernel)
theorem dX11_tellWave_42 : decode cX11_tellWave 42 = .ok (.istore_n 3, 1) := dc1_62 (by decide +kernel)
theorem dX11_tellWave_43 : decode cX11_tellWave 43 = .ok (.aload_n 0, 1) := dc1_42 (by decide +kernel)
theorem dX11_tellWave_44 : decode cX11_tellWave 44 = .ok (.getfield 43, 3) := dcw_180 (by decide +kernel)
theorem dX11_tellWave_47 : decode cX11_tellWave 47 = .ok (.iload_n 1, 1) := dc1_27 (by decide +kernel)
theorem dX11_tellWave_48 : decode cX11_tellWave 48 = .ok (.iload 4, 2) := dcu_21 (by decide +kernel)
theorem dX11_tellWave_50 : decode cX11_tellWave 50 = .ok (.iadd, 1) := dc1_96 (by decide +kernel)
theorem dX11_tellWave_51 : decode cX11_tellWave 51 = .ok (.aload_n 0, 1) := dc1_42 (by decide +kernel)
theorem dX11_tellWave_52 : decode cX11_tellWave 52 = .ok (.bipush 9, 2) := dcb_16 (n := 9) (by decide +kernel)
theorem dX11_tellWave_54 : decode cX11_tellWave 54 = .ok (.invokevirtual 246, 3) := dcw_182 (by decide +kernel)
theorem dX11_tellWave_57 : decode cX11_tellWave 57 = .ok (.iastore, 1) := dc1_79 (by decide +kernel)
theorem dX11_tellWave_58 : decode cX11_tellWave 58 = .ok (.iload_n 2, 1) := dc1_28 (by decide +kernel)
theorem dX11_tellWave_59 : decode cX11_tellWave 59 = .ok (.aload_n 0, 1) := dc1_42 (by decide +kernel)
theorem dX11_tellWave_60 : decode cX11_tellWave 60 = .ok (.getfield 43, 3) := dcw_180 (by decide +kernel)
theorem dX11_tellWave_63 : decode cX11_tellWave 63 = .ok (.iload_n 1, 1) := dc1_27 (by decide +kernel)
theorem dX11_tellWave_64 : decode cX11_tellWave 64 = .ok (.iload 4, 2) := dcu_21 (by decide +kernel)
theorem dX11_tellWave_66 : decode cX11_tellWave 66 = .ok (.iadd, 1) := dc1_96 (by decide +kernel)
theorem dX11_tellWave_67 : decode cX11_tellWave 67 = .ok (.iaload, 1) := dc1_46 (by decide +kernel)
theorem dX11_tellWave_68 : decode cX11_tellWave 68 = .ok (.iadd, 1) := dc1_96 (by decide +kernel)
theorem dX11_tellWave_69 : decode cX11_tellWave 69 = .ok (.istore_n 2, 1) := dc1_61 (by decide +kernel)
theorem dX11_tellWave_70 : decode cX11_tellWave 70 = .ok (.iinc 4 1, 3) := dc_iinc (m := 1) (by decide +kernel)
theorem dX11_tellWave_73 : decode cX11_tellWave 73 = .ok (.goto (-42), 3) := dcs_167 (n := 65494) (by decide +kernel)
theorem dX11_tellWave_76 : decode cX11_tellWave 76 = .ok (.aload_n 0, 1) := dc1_42 (by decide +kernel)
theorem dX11_tellWave_77 : decode cX11_tellWave 77 = .ok (.getfield 185, 3) := dcw_180 (by decide +kernel)
theorem dX11_tellWave_80 : decode cX11_tellWave 80 = .ok (.ifCond .ne 13, 3) := dcs_154 (n := 13) (by decide +kernel)
theorem dX11_tellWave_83 : decode cX11_tellWave 83 = .ok (.iload_n 2, 1) := dc1_28 (by decide +kernel)
theorem dX11_tellWave_84 : decode cX11_tellWave 84 = .ok (.ifCond .ne 9, 3) := dcs_154 (n := 9) (by decide +kernel)
theorem dX11_tellWave_87 : decode cX11_tellWave 87 = .ok (.aload_n 0, 1) := dc1_42 (by decide +kernel)
theorem dX11_tellWave_88 : decode cX11_tellWave 88 = .ok (.iconst 5, 1) := dc1_8 (by decide +kernel)
theorem dX11_tellWave_89 : decode cX11_tellWave 89 = .ok (.iload_n 3, 1) := dc1_29 (by decide +kernel)
theorem dX11_tellWave_90 : decode cX11_tellWave 90 = .ok (.invokevirtual 255, 3) := dcw_182 (by decide +kernel)
theorem dX11_tellWave_93 : decode cX11_tellWave 93 = .ok (.aload_n 0, 1) := dc1_42 (by decide +kernel)
theorem dX11_tellWave_94 : decode cX11_tellWave 94 = .ok (.iconst 4, 1) := dc1_7 (by decide +kernel)
theorem dX11_tellWave_95 : decode cX11_tellWave 95 = .ok (.invokevirtual 249, 3) := dcw_182 (by decide +kernel)
theorem dX11_tellWave_98 : decode cX11_tellWave 98 = .ok (.aload_n 0, 1) := dc1_42 (by decide +kernel)
theorem dX11_tellWave_99 : decode cX11_tellWave 99 = .ok (.getfield 40, 3) := dcw_180 (by decide +kernel)
theorem dX11_tellWave_102 : decode cX11_tellWave 102 = .ok (.aload_n 0, 1) := dc1_42 (by decide +kernel)
theorem dX11_tellWave_103 : decode cX11_tellWave 103 = .ok (.getfield 218, 3) := dcw_180 (by decide +kernel)
theorem dX11_tellWave_106 : decode cX11_tellWave 106 = .ok (.dup2, 1) := dc1_92 (by decide +kernel)
theorem dX11_tellWave_107 : decode cX11_tellWave 107 = .ok (.iaload, 1) := dc1_46 (by decide +kernel)
theorem dX11_tellWave_108 : decode cX11_tellWave 108 = .ok (.iconst 1, 1) := dc1_4 (by decide +kernel)
theorem dX11_tellWave_109 : decode cX11_tellWave 109 = .ok (.iadd, 1) := dc1_96 (by decide +kernel)
theorem dX11_tellWave_110 : decode cX11_tellWave 110 = .ok (.iastore, 1) := dc1_79 (by decide +kernel)
theorem dX11_tellWave_111 : decode cX11_tellWave 111 = .ok (.return_, 1) := dc1_177 (by decide +kernel)
theorem ggX11_tellParty_X11_must : GoodIn wsX11_tellParty wsX11_must := gi_sub (fun w h => List.mem_cons_of_mem _ (List.mem_append_left _ (List.mem_append_right _ (List.mem_append_left _ h)))) gd_wsX11_must
set_option maxRecDepth 20000 in
theorem gX11_tellParty_X11_must : GoodIn wsX11_tellParty (wsV RX11 249 RX11 yX11_must wsX11_must) := goodIn_app (goodIn_r _ [9, 10, 11, 12] (by decide +kernel) (by decide +kernel)) ggX11_tellParty_X11_must
theorem ggX11_tellParty_X11_wrong : GoodIn wsX11_tellParty wsX11_wrong := gi_sub (fun w h => List.mem_cons_of_mem _ (List.mem_append_left _ (List.mem_append_right _ (List.mem_append_right _ (List.mem_append_left _ h))))) gd_wsX11_wrong
set_option maxRecDepth 20000 in
theorem gX11_tellParty_X11_wrong : GoodIn wsX11_tellParty (wsV RX11 255 RX11 yX11_wrong wsX11_wrong) := goodIn_app (goodIn_r _ [13, 14, 15, 12] (by decide +kernel) (by decide +kernel)) ggX11_tellParty_X11_wrong
theorem ggX11_tellParty_X11_bounded : GoodIn wsX11_tellParty wsX11_bounded := gi_sub (fun w h => List.mem_cons_of_mem _ (List.mem_append_left _ (List.mem_append_right _ (List.mem_append_right _ (List.mem_append_right _ h))))) gd_wsX11_bounded
set_option maxRecDepth 20000 in
theorem gX11_tellParty_X11_bounded : GoodIn wsX11_tellParty (wsV RX11 246 RX11 yX11_bounded wsX11_bounded) := goodIn_app (goodIn_r _ [16, 17, 18, 12] (by decide +kernel) (by decide +kernel)) ggX11_tellParty_X11_bounded
theorem dX11_tellParty_0 : decode cX11_tellParty 0 = .ok (.bipush 6, 2) := dcb_16 (n := 6) (by decide +kernel)
theorem dX11_tellParty_2 : decode cX11_tellParty 2 = .ok (.aload_n 0, 1) := dc1_42 (by decide +kernel)
theorem dX11_tellParty_3 : decode cX11_tellParty 3 = .ok (.getfield 218, 3) := dcw_180 (by decide +kernel)
theorem dX11_tellParty_6 : decode cX11_tellParty 6 = .ok (.imul, 1) := dc1_104 (by decide +kernel)
theorem dX11_tellParty_7 : decode cX11_tellParty 7 = .ok (.aload_n 0, 1) := dc1_42 (by decide +kernel)
theorem dX11_tellParty_8 : decode cX11_tellParty 8 = .ok (.getfield 49, 3) := dcw_180 (by decide +kernel)
theorem dX11_tellParty_11 : decode cX11_tellParty 11 = .ok (.aload_n 0, 1) := dc1_42 (by decide +kernel)
theorem dX11_tellParty_12 : decode cX11_tellParty 12 = .ok (.getfield 218, 3) := dcw_180 (by decide +kernel)
theorem dX11_tellParty_15 : decode cX11_tellParty 15 = .ok (.iaload, 1) := dc1_46 (by decide +kernel)
theorem dX11_tellParty_16 : decode cX11_tellParty 16 = .ok (.iadd, 1) := dc1_96 (by decide +kernel)
theorem dX11_tellParty_17 : decode cX11_tellParty 17 = .ok (.istore_n 1, 1) := dc1_60 (by decide +kernel)
theorem dX11_tellParty_18 : decode cX11_tellParty 18 = .ok (.aload_n 0, 1) := dc1_42 (by decide +kernel)
theorem dX11_tellParty_19 : decode cX11_tellParty 19 = .ok (.getfield 188, 3) := dcw_180 (by decide +kernel)
theorem dX11_tellParty_22 : decode cX11_tellParty 22 = .ok (.istore_n 2, 1) := dc1_61 (by decide +kernel)
theorem dX11_tellParty_23 : decode cX11_tellParty 23 = .ok (.aload_n 0, 1) := dc1_42 (by decide +kernel)
theorem dX11_tellParty_24 : decode cX11_tellParty 24 = .ok (.iconst 1, 1) := dc1_4 (by decide +kernel)
theorem dX11_tellParty_25 : decode cX11_tellParty 25 = .ok (.invokevirtual 249, 3) := dcw_182 (by decide +kernel)
theorem dX11_tellParty_28 : decode cX11_tellParty 28 = .ok (.iconst 0, 1) := dc1_3 (by decide +kernel)
theorem dX11_tellParty_29 : decode cX11_tellParty 29 = .ok (.istore_n 3, 1) := dc1_62 (by decide +kernel)
theorem dX11_tellParty_30 : decode cX11_tellParty 30 = .ok (.iload_n 3, 1) := dc1_29 (by decide +kernel)
theorem dX11_tellParty_31 : decode cX11_tellParty 31 = .ok (.aload_n 0, 1) := dc1_42 (by decide +kernel)
theorem dX11_tellParty_32 : decode cX11_tellParty 32 = .ok (.getfield 49, 3) := dcw_180 (by decide +kernel)
theorem dX11_tellParty_35 : decode cX11_tellParty 35 = .ok (.aload_n 0, 1) := dc1_42 (by decide +kernel)
theorem dX11_tellParty_36 : decode cX11_tellParty 36 = .ok (.getfield 218, 3) := dcw_180 (by decide +kernel)
theorem dX11_tellParty_39 : decode cX11_tellParty 39 = .ok (.iaload, 1) := dc1_46 (by decide +kernel)
theorem dX11_tellParty_40 : decode cX11_tellParty 40 = .ok (.if_icmp .ge 38, 3) := dcs_162 (n := 38) (by decide +kernel)
theorem dX11_tellParty_43 : decode cX11_tellParty 43 = .ok (.aload_n 0, 1) := dc1_42 (by decide +kernel)
theorem dX11_tellParty_44 : decode cX11_tellParty 44 = .ok (.getfield 185, 3) := dcw_180 (by decide +kernel)
theorem dX11_tellParty_47 : decode cX11_tellParty 47 = .ok (.ifCond .ne 31, 3) := dcs_154 (n := 31) (by decide +kernel)
theorem dX11_tellParty_50 : decode cX11_tellParty 50 = .ok (.aload_n 0, 1) := dc1_42 (by decide +kernel)
theorem dX11_tellParty_51 : decode cX11_tellParty 51 = .ok (.getfield 46, 3) := dcw_180 (by decide +kernel)
theorem dX11_tellParty_54 : decode cX11_tellParty 54 = .ok (.iload_n 3, 1) := dc1_29 (by decide +kernel)
theorem dX11_tellParty_55 : decode cX11_tellParty 55 = .ok (.laload, 1) := dc1_47 (by decide +kernel)
theorem dX11_tellParty_56 : decode cX11_tellParty 56 = .ok (.aload_n 0, 1) := dc1_42 (by decide +kernel)
theorem dX11_tellParty_57 : decode cX11_tellParty 57 = .ok (.getfield 30, 3) := dcw_180 (by decide +kernel)
theorem dX11_tellParty_60 : decode cX11_tellParty 60 = .ok (.iload_n 2, 1) := dc1_28 (by decide +kernel)
theorem dX11_tellParty_61 : decode cX11_tellParty 61 = .ok (.laload, 1) := dc1_47 (by decide +kernel)
theorem dX11_tellParty_62 : decode cX11_tellParty 62 = .ok (.lcmp, 1) := dc1_148 (by decide +kernel)
theorem dX11_tellParty_63 : decode cX11_tellParty 63 = .ok (.ifCond .ne 9, 3) := dcs_154 (n := 9) (by decide +kernel)
theorem dX11_tellParty_66 : decode cX11_tellParty 66 = .ok (.aload_n 0, 1) := dc1_42 (by decide +kernel)
theorem dX11_tellParty_67 : decode cX11_tellParty 67 = .ok (.iconst 3, 1) := dc1_6 (by decide +kernel)
theorem dX11_tellParty_68 : decode cX11_tellParty 68 = .ok (.iload_n 2, 1) := dc1_28 (by decide +kernel)
theorem dX11_tellParty_69 : decode cX11_tellParty 69 = .ok (.invokevirtual 255, 3) := dcw_182 (by decide +kernel)
theorem dX11_tellParty_72 : decode cX11_tellParty 72 = .ok (.iinc 3 1, 3) := dc_iinc (m := 1) (by decide +kernel)
theorem dX11_tellParty_75 : decode cX11_tellParty 75 = .ok (.goto (-45), 3) := dcs_167 (n := 65491) (by decide +kernel)
theorem dX11_tellParty_78 : decode cX11_tellParty 78 = .ok (.aload_n 0, 1) := dc1_42 (by decide +kernel)
theorem dX11_tellParty_79 : decode cX11_tellParty 79 = .ok (.getfield 52, 3) := dcw_180 (by decide +kernel)
theorem dX11_tellParty_82 : decode cX11_tellParty 82 = .ok (.iload_n 1, 1) := dc1_27 (by decide +kernel)
theorem dX11_tellParty_83 : decode cX11_tellParty 83 = .ok (.aload_n 0, 1) := dc1_42 (by decide +kernel)
theorem dX11_tellParty_84 : decode cX11_tellParty 84 = .ok (.bipush 9, 2) := dcb_16 (n := 9) (by decide +kernel)
theorem dX11_tellParty_86 : decode cX11_tellParty 86 = .ok (.invokevirtual 246, 3) := dcw_182 (by decide +kernel)
theorem dX11_tellParty_89 : decode cX11_tellParty 89 = .ok (.iastore, 1) := dc1_79 (by decide +kernel)
theorem dX11_tellParty_90 : decode cX11_tellParty 90 = .ok (.aload_n 0, 1) := dc1_42 (by decide +kernel)
theorem dX11_tellParty_91 : decode cX11_tellParty 91 = .ok (.getfield 55, 3) := dcw_180 (by decide +kernel)
theorem dX11_tellParty_94 : decode cX11_tellParty 94 = .ok (.iload_n 1, 1) := dc1_27 (by decide +kernel)
theorem dX11_tellParty_95 : decode cX11_tellParty 95 = .ok (.aload_n 0, 1) := dc1_42 (by decide +kernel)
theorem dX11_tellParty_96 : decode cX11_tellParty 96 = .ok (.bipush 9, 2) := dcb_16 (n := 9) (by decide +kernel)
theorem dX11_tellParty_98 : decode cX11_tellParty 98 = .ok (.invokevirtual 246, 3) := dcw_182 (by decide +kernel)
theorem dX11_tellParty_101 : decode cX11_tellParty 101 = .ok (.iastore, 1) := dc1_79 (by decide +kernel)
theorem dX11_tellParty_102 : decode cX11_tellParty 102 = .ok (.aload_n 0, 1) := dc1_42 (by decide +kernel)
theorem dX11_tellParty_103 : decode cX11_tellParty 103 = .ok (.iconst 4, 1) := dc1_7 (by decide +kernel)
theorem dX11_tellParty_104 : decode cX11_tellParty 104 = .ok (.invokevirtual 249, 3) := dcw_182 (by decide +kernel)
theorem dX11_tellParty_107 : decode cX11_tellParty 107 = .ok (.aload_n 0, 1) := dc1_42 (by decide +kernel)
theorem dX11_tellParty_108 : decode cX11_tellParty 108 = .ok (.getfield 185, 3) := dcw_180 (by decide +kernel)
theorem dX11_tellParty_111 : decode cX11_tellParty 111 = .ok (.ifCond .le 4, 3) := dcs_158 (n := 4) (by decide +kernel)
theorem dX11_tellParty_114 : decode cX11_tellParty 114 = .ok (.return_, 1) := dc1_177 (by decide +kernel)
theorem dX11_tellParty_115 : decode cX11_tellParty 115 = .ok (.aload_n 0, 1) := dc1_42 (by decide +kernel)
theorem dX11_tellParty_116 : decode cX11_tellParty 116 = .ok (.getfield 46, 3) := dcw_180 (by decide +kernel)
theorem dX11_tellParty_119 : decode cX11_tellParty 119 = .ok (.aload_n 0, 1) := dc1_42 (by decide +kernel)
theorem dX11_tellParty_120 : decode cX11_tellParty 120 = .ok (.getfield 49, 3) := dcw_180 (by decide +kernel)
theorem dX11_tellParty_123 : decode cX11_tellParty 123 = .ok (.aload_n 0, 1) := dc1_42 (by decide +kernel)
theorem dX11_tellParty_124 : decode cX11_tellParty 124 = .ok (.getfield 218, 3) := dcw_180 (by decide +kernel)
theorem dX11_tellParty_127 : decode cX11_tellParty 127 = .ok (.iaload, 1) := dc1_46 (by decide +kernel)
theorem dX11_tellParty_128 : decode cX11_tellParty 128 = .ok (.aload_n 0, 1) := dc1_42 (by decide +kernel)
theorem dX11_tellParty_129 : decode cX11_tellParty 129 = .ok (.getfield 30, 3) := dcw_180 (by decide +kernel)
theorem dX11_tellParty_132 : decode cX11_tellParty 132 = .ok (.iload_n 2, 1) := dc1_28 (by decide +kernel)
theorem dX11_tellParty_133 : decode cX11_tellParty 133 = .ok (.laload, 1) := dc1_47 (by decide +kernel)
theorem dX11_tellParty_134 : decode cX11_tellParty 134 = .ok (.lastore, 1) := dc1_80 (by decide +kernel)
theorem dX11_tellParty_135 : decode cX11_tellParty 135 = .ok (.aload_n 0, 1) := dc1_42 (by decide +kernel)
theorem dX11_tellParty_136 : decode cX11_tellParty 136 = .ok (.getfield 49, 3) := dcw_180 (by decide +kernel)
theorem dX11_tellParty_139 : decode cX11_tellParty 139 = .ok (.aload_n 0, 1) := dc1_42 (by decide +kernel)
theorem dX11_tellParty_140 : decode cX11_tellParty 140 = .ok (.getfield 218, 3) := dcw_180 (by decide +kernel)
theorem dX11_tellParty_143 : decode cX11_tellParty 143 = .ok (.dup2, 1) := dc1_92 (by decide +kernel)
theorem dX11_tellParty_144 : decode cX11_tellParty 144 = .ok (.iaload, 1) := dc1_46 (by decide +kernel)
theorem dX11_tellParty_145 : decode cX11_tellParty 145 = .ok (.iconst 1, 1) := dc1_4 (by decide +kernel)
theorem dX11_tellParty_146 : decode cX11_tellParty 146 = .ok (.iadd, 1) := dc1_96 (by decide +kernel)
theorem dX11_tellParty_147 : decode cX11_tellParty 147 = .ok (.iastore, 1) := dc1_79 (by decide +kernel)
theorem dX11_tellParty_148 : decode cX11_tellParty 148 = .ok (.return_, 1) := dc1_177 (by decide +kernel)
theorem LX11_is_185 : Cond.fieldLink RX11 185 "GuessFerryModel" "fault" "I" ∈ wsX11_is := by decide +kernel
theorem LX11_is_188 : Cond.fieldLink RX11 188 "GuessFerryModel" "t" "I" ∈ wsX11_is := by decide +kernel
theorem LX11_is_20 : Cond.fieldLink RX11 20 "GuessFerryModel" "tKind" "[I" ∈ wsX11_is := by decide +kernel
theorem inX11_is_X11 : ∀ w ∈ u_ws RX11 TX11 58, w ∈ wsX11_is := fun _ h => List.mem_cons_of_mem _ (List.mem_append_right _ h)
set_option maxHeartbeats 4000000 in
set_option maxRecDepth 100000 in
theorem br_is {l : Launch} {dC : Nat → ClassId} {dI : Nat → Nat → Nat} {cB cI cJ cZ cS : ClassId} {h : Nat} {a : Nat → Nat} {as : List Value} {r : Int32} {s' : RS} (s : RS) (x1 : Int32) (hB : r_is s x1 = some (r, s')) : BlkI l yX11_is wsX11_is ({ frames := 0, cells := 0, slots := 0, locals := 0 }) cX11_is 2 (some .boolean) (dC, dI) (tysA cB cI cJ cZ cS) as 0 (mwS cB cI cJ cZ h a s) [(0, .ref h), (1, .int x1)] [] (fun x u => x = r ∧ u = (mwS cB cI cJ cZ h a s')) := by
  intro p e s0 m below meth c A E H locs ls hP hD hS hl
  obtain ⟨C, hr, hlocks, hA, hK, hN⟩ := id E
  obtain ⟨hx, hb, hml, hown, hts⟩ := id C
  unfold r_is at hB
  refine lv_aload_n hx hb dX11_is_0 rfl (lv_at hl 0 rfl) ?_
  refine q_get (v := .int (s.v 13)) C inX11_is_X11 hK hP 0 rfl rfl 13 (by decide) rfl LX11_is_185 rfl dX11_is_1 ?_
  refine lv_if_ne (tgt := 24) hx hb dX11_is_4 (by decide) (fun c1 => ?_) (fun c1 => ?_)
  · have hB := if_n hB c1
    refine lv_iconst (v := 0) hx hb dX11_is_24 (by decide) ?_
    exact q_zret C hr hlocks (Or.inl rfl) hK hP hD hS (Nat.le_of_ble_eq_true rfl) (Nat.le_of_ble_eq_true rfl) dX11_is_25 (by cases hB; exact ⟨rfl, rfl⟩)
  · have hB := if_p hB c1
    refine lv_aload_n hx hb dX11_is_7 rfl (lv_at hl 0 rfl) ?_
    refine q_get (v := .ref (a 5)) C inX11_is_X11 hK hP 0 rfl rfl 5 (by decide) rfl LX11_is_20 rfl dX11_is_8 ?_
    refine lv_aload_n hx hb dX11_is_11 rfl (lv_at hl 0 rfl) ?_
    refine q_get (v := .int (s.v 11)) C inX11_is_X11 hK hP 0 rfl rfl 11 (by decide) rfl LX11_is_188 rfl dX11_is_12 ?_
    obtain ⟨g2, hB⟩ := guard_inv hB
    refine q_iald (x := (s.f 5 (Int32.toNatClampNeg (s.v 11)))) C hK hP 3 1 rfl rfl (vpb_in g2) dX11_is_15 rfl ?_
    refine lv_iload_n hx hb dX11_is_16 rfl (lv_at hl 1 rfl) ?_
    refine lv_icmp_ne (tgt := 24) hx hb dX11_is_17 (by decide) (fun c3 => ?_) (fun c3 => ?_)
    · have hB := if_n hB c3
      refine lv_iconst (v := 0) hx hb dX11_is_24 (by decide) ?_
      exact q_zret C hr hlocks (Or.inl rfl) hK hP hD hS (Nat.le_of_ble_eq_true rfl) (Nat.le_of_ble_eq_true rfl) dX11_is_25 (by cases hB; exact ⟨rfl, rfl⟩)
    · have hB := if_p hB c3
      refine lv_iconst (v := 1) hx hb dX11_is_20 (by decide) ?_
      refine lv_goto (tgt := 25) hx hb dX11_is_21 (by decide) ?_
      exact q_zret C hr hlocks (Or.inr rfl) hK hP hD hS (Nat.le_of_ble_eq_true rfl) (Nat.le_of_ble_eq_true rfl) dX11_is_25 (by cases hB; exact ⟨rfl, rfl⟩)
theorem cr_is {l : Launch} {dC : Nat → ClassId} {dI : Nat → Nat → Nat} {cB cI cJ cZ cS : ClassId} {h : Nat} {a : Nat → Nat} {r : Int32} {s' : RS} {s : RS} {x1 : Int32} (hB : r_is s x1 = some (r, s')) : CI l yX11_is wsX11_is ({ frames := 0, cells := 0, slots := 0, locals := 0 }) (dC, dI) (tysA cB cI cJ cZ cS) (mwS cB cI cJ cZ h a s) [.ref h, .int x1] (fun x u => x = r ∧ u = (mwS cB cI cJ cZ h a s')) :=
  CI_of (cc := cX11_is) (maxL := 2) (ret := (some .boolean)) (by decide) rfl (Nat.le_of_ble_eq_true rfl) (br_is _ _ hB)
theorem LX11_fail_185 : Cond.fieldLink RX11 185 "GuessFerryModel" "fault" "I" ∈ wsX11_fail := by decide +kernel
theorem LX11_fail_188 : Cond.fieldLink RX11 188 "GuessFerryModel" "t" "I" ∈ wsX11_fail := by decide +kernel
theorem LX11_fail_191 : Cond.fieldLink RX11 191 "GuessFerryModel" "faultPlace" "I" ∈ wsX11_fail := by decide +kernel
theorem LX11_fail_24 : Cond.fieldLink RX11 24 "GuessFerryModel" "tPlace" "[I" ∈ wsX11_fail := by decide +kernel
theorem inX11_fail_X11 : ∀ w ∈ u_ws RX11 TX11 58, w ∈ wsX11_fail := fun _ h => List.mem_cons_of_mem _ (List.mem_append_right _ h)
set_option maxHeartbeats 4000000 in
set_option maxRecDepth 100000 in
theorem br_fail {l : Launch} {dC : Nat → ClassId} {dI : Nat → Nat → Nat} {cB cI cJ cZ cS : ClassId} {h : Nat} {a : Nat → Nat} {as : List Value} {s' : RS} (s : RS) (x1 : Int32) (hB : r_fail s x1 = some s') : BlkV l yX11_fail wsX11_fail ({ frames := 0, cells := 0, slots := 0, locals := 0 }) cX11_fail 2 none (dC, dI) (tysA cB cI cJ cZ cS) as 0 (mwS cB cI cJ cZ h a s) [(0, .ref h), (1, .int x1)] [] (fun u => u = (mwS cB cI cJ cZ h a s')) := by
  intro p e s0 m below meth c A E H locs ls hP hD hS hl
  obtain ⟨C, hr, hlocks, hA, hK, hN⟩ := id E
  obtain ⟨hx, hb, hml, hown, hts⟩ := id C
  unfold r_fail at hB
  refine lv_aload_n hx hb dX11_fail_0 rfl (lv_at hl 0 rfl) ?_
  refine q_get (v := .int (s.v 13)) C inX11_fail_X11 hK hP 0 rfl rfl 13 (by decide) rfl LX11_fail_185 rfl dX11_fail_1 ?_
  refine lv_if_le (tgt := 8) hx hb dX11_fail_4 (by decide) (fun c1 => ?_) (fun c1 => ?_)
  · have hB := if_p hB c1
    refine lv_aload_n hx hb dX11_fail_8 rfl (lv_at hl 0 rfl) ?_
    refine lv_iload_n hx hb dX11_fail_9 rfl (lv_at hl 1 rfl) ?_
    obtain ⟨s2, hs3, hB⟩ := letS_inv hB
    refine q_put (ty := .int) (w2 := (mwS cB cI cJ cZ h a s2)) tyX11 tyX11_ok nmX11 C inX11_fail_X11 hK hP hD hS 0 rfl rfl 13 (by decide) rfl LX11_fail_185 rfl (by decide +kernel) (rfl) rfl (Nat.le_of_ble_eq_true rfl) dX11_fail_10 (mwS_v13 hs3) (fun H locs hP hD hS => ?_)
    refine lv_aload_n hx hb dX11_fail_13 rfl (lv_at hl 0 rfl) ?_
    refine lv_aload_n hx hb dX11_fail_14 rfl (lv_at hl 0 rfl) ?_
    refine q_get (v := .ref (a 6)) C inX11_fail_X11 hK hP 0 rfl rfl 6 (by decide) rfl LX11_fail_24 rfl dX11_fail_15 ?_
    refine lv_aload_n hx hb dX11_fail_18 rfl (lv_at hl 0 rfl) ?_
    refine q_get (v := .int (s2.v 11)) C inX11_fail_X11 hK hP 0 rfl rfl 11 (by decide) rfl LX11_fail_188 rfl dX11_fail_19 ?_
    obtain ⟨g4, hB⟩ := guard_inv hB
    refine q_iald (x := (s2.f 6 (Int32.toNatClampNeg (s2.v 11)))) C hK hP 4 1 rfl rfl (vpb_in g4) dX11_fail_22 rfl ?_
    obtain ⟨s5, hs6, hB⟩ := letS_inv hB
    refine q_put (ty := .int) (w2 := (mwS cB cI cJ cZ h a s5)) tyX11 tyX11_ok nmX11 C inX11_fail_X11 hK hP hD hS 0 rfl rfl 14 (by decide) rfl LX11_fail_191 rfl (by decide +kernel) (rfl) rfl (Nat.le_of_ble_eq_true rfl) dX11_fail_23 (mwS_v14 hs6) (fun H locs hP hD hS => ?_)
    exact q_vret C hr hlocks hK hP hD hS (Nat.le_of_ble_eq_true rfl) (Nat.le_of_ble_eq_true rfl) dX11_fail_26 (by cases hB; rfl)
  · have hB := if_n hB c1
    exact q_vret C hr hlocks hK hP hD hS (Nat.le_of_ble_eq_true rfl) (Nat.le_of_ble_eq_true rfl) dX11_fail_7 (by cases hB; rfl)
theorem cr_fail {l : Launch} {dC : Nat → ClassId} {dI : Nat → Nat → Nat} {cB cI cJ cZ cS : ClassId} {h : Nat} {a : Nat → Nat} {s' : RS} {s : RS} {x1 : Int32} (hB : r_fail s x1 = some s') : CV l yX11_fail wsX11_fail ({ frames := 0, cells := 0, slots := 0, locals := 0 }) (dC, dI) (tysA cB cI cJ cZ cS) (mwS cB cI cJ cZ h a s) [.ref h, .int x1] (fun u => u = (mwS cB cI cJ cZ h a s')) :=
  CV_of (cc := cX11_fail) (maxL := 2) (ret := none) (by decide) rfl (Nat.le_of_ble_eq_true rfl) (br_fail _ _ hB)
theorem LX11_wrong_185 : Cond.fieldLink RX11 185 "GuessFerryModel" "fault" "I" ∈ wsX11_wrong := by decide +kernel
theorem LX11_wrong_194 : Cond.fieldLink RX11 194 "GuessFerryModel" "worst" "I" ∈ wsX11_wrong := by decide +kernel
theorem LX11_wrong_197 : Cond.fieldLink RX11 197 "GuessFerryModel" "worstPlace" "I" ∈ wsX11_wrong := by decide +kernel
theorem LX11_wrong_24 : Cond.fieldLink RX11 24 "GuessFerryModel" "tPlace" "[I" ∈ wsX11_wrong := by decide +kernel
theorem inX11_wrong_X11 : ∀ w ∈ u_ws RX11 TX11 58, w ∈ wsX11_wrong := fun _ h => List.mem_cons_of_mem _ (List.mem_append_right _ h)
set_option maxHeartbeats 4000000 in
set_option maxRecDepth 100000 in
theorem br_wrong_46 {l : Launch} {dC : Nat → ClassId} {dI : Nat → Nat → Nat} {cB cI cJ cZ cS : ClassId} {h : Nat} {a : Nat → Nat} {as : List Value} {s' : RS} (s : RS) (x1 : Int32) (x3 : Int32) (hB : r_wrong_46 s x1 x3 = some s') : BlkV l yX11_wrong wsX11_wrong ({ frames := 0, cells := 0, slots := 0, locals := 0 }) cX11_wrong 4 none (dC, dI) (tysA cB cI cJ cZ cS) as 46 (mwS cB cI cJ cZ h a s) [(0, .ref h), (1, .int x1), (3, .int x3)] [] (fun u => u = (mwS cB cI cJ cZ h a s')) := by
  intro p e s0 m below meth c A E H locs ls hP hD hS hl
  obtain ⟨C, hr, hlocks, hA, hK, hN⟩ := id E
  obtain ⟨hx, hb, hml, hown, hts⟩ := id C
  unfold r_wrong_46 at hB
  refine lv_aload_n hx hb dX11_wrong_46 rfl (lv_at hl 0 rfl) ?_
  refine lv_iload_n hx hb dX11_wrong_47 rfl (lv_at hl 1 rfl) ?_
  obtain ⟨s1, hs2, hB⟩ := letS_inv hB
  refine q_put (ty := .int) (w2 := (mwS cB cI cJ cZ h a s1)) tyX11 tyX11_ok nmX11 C inX11_wrong_X11 hK hP hD hS 0 rfl rfl 15 (by decide) rfl LX11_wrong_194 rfl (by decide +kernel) (rfl) rfl (Nat.le_of_ble_eq_true rfl) dX11_wrong_48 (mwS_v15 hs2) (fun H locs hP hD hS => ?_)
  refine lv_aload_n hx hb dX11_wrong_51 rfl (lv_at hl 0 rfl) ?_
  refine lv_iload_n hx hb dX11_wrong_52 rfl (lv_at hl 2 rfl) ?_
  obtain ⟨s3, hs4, hB⟩ := letS_inv hB
  refine q_put (ty := .int) (w2 := (mwS cB cI cJ cZ h a s3)) tyX11 tyX11_ok nmX11 C inX11_wrong_X11 hK hP hD hS 0 rfl rfl 16 (by decide) rfl LX11_wrong_197 rfl (by decide +kernel) (rfl) rfl (Nat.le_of_ble_eq_true rfl) dX11_wrong_53 (mwS_v16 hs4) (fun H locs hP hD hS => ?_)
  exact q_vret C hr hlocks hK hP hD hS (Nat.le_of_ble_eq_true rfl) (Nat.le_of_ble_eq_true rfl) dX11_wrong_56 (by cases hB; rfl)
set_option maxHeartbeats 4000000 in
set_option maxRecDepth 100000 in
theorem br_wrong {l : Launch} {dC : Nat → ClassId} {dI : Nat → Nat → Nat} {cB cI cJ cZ cS : ClassId} {h : Nat} {a : Nat → Nat} {as : List Value} {s' : RS} (s : RS) (x1 : Int32) (x2 : Int32) (hB : r_wrong s x1 x2 = some s') : BlkV l yX11_wrong wsX11_wrong ({ frames := 0, cells := 0, slots := 0, locals := 0 }) cX11_wrong 4 none (dC, dI) (tysA cB cI cJ cZ cS) as 0 (mwS cB cI cJ cZ h a s) [(0, .ref h), (1, .int x1), (2, .int x2)] [] (fun u => u = (mwS cB cI cJ cZ h a s')) := by
  intro p e s0 m below meth c A E H locs ls hP hD hS hl
  obtain ⟨C, hr, hlocks, hA, hK, hN⟩ := id E
  obtain ⟨hx, hb, hml, hown, hts⟩ := id C
  unfold r_wrong at hB
  refine lv_aload_n hx hb dX11_wrong_0 rfl (lv_at hl 0 rfl) ?_
  refine q_get (v := .ref (a 6)) C inX11_wrong_X11 hK hP 0 rfl rfl 6 (by decide) rfl LX11_wrong_24 rfl dX11_wrong_1 ?_
  refine lv_iload_n hx hb dX11_wrong_4 rfl (lv_at hl 2 rfl) ?_
  obtain ⟨g1, hB⟩ := guard_inv hB
  refine q_iald (x := (s.f 6 (Int32.toNatClampNeg x2))) C hK hP 4 1 rfl rfl (vpb_in g1) dX11_wrong_5 rfl ?_
  refine lv_istore_n (lv' := [(3, .int (s.f 6 (Int32.toNatClampNeg x2))), (0, .ref h), (1, .int x1), (2, .int x2)]) hx hb dX11_wrong_6 rfl hl (by decide) rfl (fun ls hl => ?_)
  refine lv_aload_n hx hb dX11_wrong_7 rfl (lv_at hl 1 rfl) ?_
  refine q_get (v := .int (s.v 13)) C inX11_wrong_X11 hK hP 0 rfl rfl 13 (by decide) rfl LX11_wrong_185 rfl dX11_wrong_8 ?_
  refine lv_if_gt (tgt := 45) hx hb dX11_wrong_11 (by decide) (fun c2 => ?_) (fun c2 => ?_)
  · have hB := if_p hB c2
    exact q_vret C hr hlocks hK hP hD hS (Nat.le_of_ble_eq_true rfl) (Nat.le_of_ble_eq_true rfl) dX11_wrong_45 (by cases hB; rfl)
  · have hB := if_n hB c2
    refine lv_aload_n hx hb dX11_wrong_14 rfl (lv_at hl 1 rfl) ?_
    refine q_get (v := .int (s.v 15)) C inX11_wrong_X11 hK hP 0 rfl rfl 15 (by decide) rfl LX11_wrong_194 rfl dX11_wrong_15 ?_
    refine lv_if_eq (tgt := 46) hx hb dX11_wrong_18 (by decide) (fun c3 => ?_) (fun c3 => ?_)
    · have hB := if_p hB c3
      exact br_wrong_46 _ _ _ hB p e s0 m below meth c A E H locs ls hP hD hS (lv_sub hl [1, 2, 0] rfl)
    · have hB := if_n hB c3
      refine lv_iload_n hx hb dX11_wrong_21 rfl (lv_at hl 0 rfl) ?_
      refine lv_aload_n hx hb dX11_wrong_22 rfl (lv_at hl 1 rfl) ?_
      refine q_get (v := .int (s.v 16)) C inX11_wrong_X11 hK hP 0 rfl rfl 16 (by decide) rfl LX11_wrong_197 rfl dX11_wrong_23 ?_
      refine lv_icmp_gt (tgt := 45) hx hb dX11_wrong_26 (by decide) (fun c4 => ?_) (fun c4 => ?_)
      · have hB := if_p hB c4
        exact q_vret C hr hlocks hK hP hD hS (Nat.le_of_ble_eq_true rfl) (Nat.le_of_ble_eq_true rfl) dX11_wrong_45 (by cases hB; rfl)
      · have hB := if_n hB c4
        refine lv_iload_n hx hb dX11_wrong_29 rfl (lv_at hl 0 rfl) ?_
        refine lv_aload_n hx hb dX11_wrong_30 rfl (lv_at hl 1 rfl) ?_
        refine q_get (v := .int (s.v 16)) C inX11_wrong_X11 hK hP 0 rfl rfl 16 (by decide) rfl LX11_wrong_197 rfl dX11_wrong_31 ?_
        refine lv_icmp_ne (tgt := 46) hx hb dX11_wrong_34 (by decide) (fun c5 => ?_) (fun c5 => ?_)
        · have hB := if_n hB c5
          exact br_wrong_46 _ _ _ hB p e s0 m below meth c A E H locs ls hP hD hS (lv_sub hl [1, 2, 0] rfl)
        · have hB := if_p hB c5
          refine lv_iload_n hx hb dX11_wrong_37 rfl (lv_at hl 2 rfl) ?_
          refine lv_aload_n hx hb dX11_wrong_38 rfl (lv_at hl 1 rfl) ?_
          refine q_get (v := .int (s.v 15)) C inX11_wrong_X11 hK hP 0 rfl rfl 15 (by decide) rfl LX11_wrong_194 rfl dX11_wrong_39 ?_
          refine lv_icmp_lt (tgt := 46) hx hb dX11_wrong_42 (by decide) (fun c6 => ?_) (fun c6 => ?_)
          · have hB := if_p hB c6
            exact br_wrong_46 _ _ _ hB p e s0 m below meth c A E H locs ls hP hD hS (lv_sub hl [1, 2, 0] rfl)
          · have hB := if_n hB c6
            exact q_vret C hr hlocks hK hP hD hS (Nat.le_of_ble_eq_true rfl) (Nat.le_of_ble_eq_true rfl) dX11_wrong_45 (by cases hB; rfl)
theorem cr_wrong {l : Launch} {dC : Nat → ClassId} {dI : Nat → Nat → Nat} {cB cI cJ cZ cS : ClassId} {h : Nat} {a : Nat → Nat} {s' : RS} {s : RS} {x1 : Int32} {x2 : Int32} (hB : r_wrong s x1 x2 = some s') : CV l yX11_wrong wsX11_wrong ({ frames := 0, cells := 0, slots := 0, locals := 0 }) (dC, dI) (tysA cB cI cJ cZ cS) (mwS cB cI cJ cZ h a s) [.ref h, .int x1, .int x2] (fun u => u = (mwS cB cI cJ cZ h a s')) :=
  CV_of (cc := cX11_wrong) (maxL := 4) (ret := none) (by decide) rfl (Nat.le_of_ble_eq_true rfl) (br_wrong _ _ _ hB)
theorem LX11_goesOn_188 : Cond.fieldLink RX11 188 "GuessFerryModel" "t" "I" ∈ wsX11_goesOn := by decide +kernel
theorem inX11_goesOn_X11 : ∀ w ∈ u_ws RX11 TX11 58, w ∈ wsX11_goesOn := by decide +kernel
set_option maxHeartbeats 4000000 in
set_option maxRecDepth 100000 in
theorem br_goesOn {l : Launch} {dC : Nat → ClassId} {dI : Nat → Nat → Nat} {cB cI cJ cZ cS : ClassId} {h : Nat} {a : Nat → Nat} {as : List Value} {s' : RS} (s : RS) (hB : r_goesOn s = some s') : BlkV l yX11_goesOn wsX11_goesOn ({ frames := 1, cells := 0, slots := 0, locals := 21 }) cX11_goesOn 1 none (dC, dI) (tysA cB cI cJ cZ cS) as 0 (mwS cB cI cJ cZ h a s) [(0, .ref h)] [] (fun u => u = (mwS cB cI cJ cZ h a s')) := by
  intro p e s0 m below meth c A E H locs ls hP hD hS hl
  obtain ⟨C, hr, hlocks, hA, hK, hN⟩ := id E
  obtain ⟨hx, hb, hml, hown, hts⟩ := id C
  unfold r_goesOn at hB
  refine lv_aload_n hx hb dX11_goesOn_0 rfl (lv_at hl 0 rfl) ?_
  refine q_get (v := .int (s.v 11)) C inX11_goesOn_X11 hK hP 0 rfl rfl 11 (by decide) rfl LX11_goesOn_188 rfl dX11_goesOn_1 ?_
  refine lv_sipush (v := 400) hx hb dX11_goesOn_4 (by decide) ?_
  refine lv_icmp_ne (tgt := 18) hx hb dX11_goesOn_7 (by decide) (fun c1 => ?_) (fun c1 => ?_)
  · have hB := if_n hB c1
    refine lv_aload_n hx hb dX11_goesOn_18 rfl (lv_at hl 0 rfl) ?_
    refine lv_dup hx hb dX11_goesOn_19 rfl ?_
    refine q_get (v := .int (s.v 11)) C inX11_goesOn_X11 hK hP 0 rfl rfl 11 (by decide) rfl LX11_goesOn_188 rfl dX11_goesOn_20 ?_
    refine lv_iconst (v := 1) hx hb dX11_goesOn_23 (by decide) ?_
    refine lv_iadd hx hb dX11_goesOn_24 ?_
    obtain ⟨s2, hs3, hB⟩ := letS_inv hB
    refine q_put (ty := .int) (w2 := (mwS cB cI cJ cZ h a s2)) tyX11 tyX11_ok nmX11 C inX11_goesOn_X11 hK hP hD hS 0 rfl rfl 11 (by decide) rfl LX11_goesOn_188 rfl (by decide +kernel) (rfl) rfl (Nat.le_of_ble_eq_true rfl) dX11_goesOn_25 (mwS_v11 hs3) (fun H locs hP hD hS => ?_)
    exact q_vret C hr hlocks hK hP hD hS (Nat.le_of_ble_eq_true rfl) (Nat.le_of_ble_eq_true rfl) dX11_goesOn_28 (by cases hB; rfl)
  · have hB := if_p hB c1
    refine lv_aload_n hx hb dX11_goesOn_10 rfl (lv_at hl 0 rfl) ?_
    refine lv_iconst (v := 2) hx hb dX11_goesOn_11 (by decide) ?_
    obtain ⟨s4, hc, hB⟩ := bindP_inv hB
    refine q_govF (va_runV (As := [.int 2]) (rest := []) C (cr_fail hc _) (cwV 1 hts gX11_goesOn_X11_fail rfl rfl rfl (by decide +kernel) ⟨Nat.le_of_ble_eq_true rfl, Nat.le_of_ble_eq_true rfl⟩) (q_preV hK hP (ci := 11) (q0 := 0) rfl rfl rfl (q_preF hN hK hP hD)) rfl rfl hl.1 rfl (lv_room (Nat.le_of_ble_eq_true rfl)) dX11_goesOn_12 ⟨Nat.le_of_ble_eq_true rfl, Nat.le_of_ble_eq_true rfl⟩) hD hS hA (fun w1 H locs hw hP hD hS => ?_)
    subst hw
    refine lv_goto (tgt := 28) hx hb dX11_goesOn_15 (by decide) ?_
    exact q_vret C hr hlocks hK hP hD hS (Nat.le_of_ble_eq_true rfl) (Nat.le_of_ble_eq_true rfl) dX11_goesOn_28 (by cases hB; rfl)
theorem cr_goesOn {l : Launch} {dC : Nat → ClassId} {dI : Nat → Nat → Nat} {cB cI cJ cZ cS : ClassId} {h : Nat} {a : Nat → Nat} {s' : RS} {s : RS} (hB : r_goesOn s = some s') : CV l yX11_goesOn wsX11_goesOn ({ frames := 1, cells := 0, slots := 0, locals := 21 }) (dC, dI) (tysA cB cI cJ cZ cS) (mwS cB cI cJ cZ h a s) [.ref h] (fun u => u = (mwS cB cI cJ cZ h a s')) :=
  CV_of (cc := cX11_goesOn) (maxL := 1) (ret := none) (by decide) rfl (Nat.le_of_ble_eq_true rfl) (br_goesOn _ hB)
set_option maxHeartbeats 4000000 in
set_option maxRecDepth 100000 in
theorem br_must {l : Launch} {dC : Nat → ClassId} {dI : Nat → Nat → Nat} {cB cI cJ cZ cS : ClassId} {h : Nat} {a : Nat → Nat} {as : List Value} {s' : RS} (s : RS) (x1 : Int32) (hB : r_must s x1 = some s') : BlkV l yX11_must wsX11_must ({ frames := 2, cells := 0, slots := 0, locals := 41 }) cX11_must 2 none (dC, dI) (tysA cB cI cJ cZ cS) as 0 (mwS cB cI cJ cZ h a s) [(0, .ref h), (1, .int x1)] [] (fun u => u = (mwS cB cI cJ cZ h a s')) := by
  intro p e s0 m below meth c A E H locs ls hP hD hS hl
  obtain ⟨C, hr, hlocks, hA, hK, hN⟩ := id E
  obtain ⟨hx, hb, hml, hown, hts⟩ := id C
  unfold r_must at hB
  refine lv_aload_n hx hb dX11_must_0 rfl (lv_at hl 0 rfl) ?_
  refine lv_iload_n hx hb dX11_must_1 rfl (lv_at hl 1 rfl) ?_
  obtain ⟨q_, s1, hc, hB⟩ := bindI_inv hB
  refine q_goiF (va_runV (As := [.int x1]) (rest := []) C (cr_is hc _) (cwV 1 hts gX11_must_X11_is rfl rfl rfl (by decide +kernel) ⟨Nat.le_of_ble_eq_true rfl, Nat.le_of_ble_eq_true rfl⟩) (q_preV hK hP (ci := 11) (q0 := 0) rfl rfl rfl (q_preF hN hK hP hD)) rfl rfl hl.1 rfl (lv_room (Nat.le_of_ble_eq_true rfl)) dX11_must_2 ⟨Nat.le_of_ble_eq_true rfl, Nat.le_of_ble_eq_true rfl⟩) hD hS hA (fun r2 w1 H locs hw hP hD hS => ?_)
  obtain ⟨hq_, hw⟩ := hw; subst hw; subst hq_
  refine lv_if_eq (tgt := 15) hx hb dX11_must_5 (by decide) (fun c3 => ?_) (fun c3 => ?_)
  · have hB := if_p hB c3
    refine lv_aload_n hx hb dX11_must_15 rfl (lv_at hl 0 rfl) ?_
    refine lv_iconst (v := 1) hx hb dX11_must_16 (by decide) ?_
    obtain ⟨s4, hc, hB⟩ := bindP_inv hB
    refine q_govF (va_runV (As := [.int 1]) (rest := []) C (cr_fail hc _) (cwV 1 hts gX11_must_X11_fail rfl rfl rfl (by decide +kernel) ⟨Nat.le_of_ble_eq_true rfl, Nat.le_of_ble_eq_true rfl⟩) (q_preV hK hP (ci := 11) (q0 := 0) rfl rfl rfl (q_preF hN hK hP hD)) rfl rfl hl.1 rfl (lv_room (Nat.le_of_ble_eq_true rfl)) dX11_must_17 ⟨Nat.le_of_ble_eq_true rfl, Nat.le_of_ble_eq_true rfl⟩) hD hS hA (fun w1 H locs hw hP hD hS => ?_)
    subst hw
    exact q_vret C hr hlocks hK hP hD hS (Nat.le_of_ble_eq_true rfl) (Nat.le_of_ble_eq_true rfl) dX11_must_20 (by cases hB; rfl)
  · have hB := if_n hB c3
    refine lv_aload_n hx hb dX11_must_8 rfl (lv_at hl 0 rfl) ?_
    obtain ⟨s5, hc, hB⟩ := bindP_inv hB
    refine q_govF (va_runV (As := []) (rest := []) C (cr_goesOn hc _) (cwV 0 hts gX11_must_X11_goesOn rfl rfl rfl (by decide +kernel) ⟨Nat.le_of_ble_eq_true rfl, Nat.le_of_ble_eq_true rfl⟩) (q_preV hK hP (ci := 11) (q0 := 0) rfl rfl rfl (q_preF hN hK hP hD)) rfl rfl hl.1 rfl (lv_room (Nat.le_of_ble_eq_true rfl)) dX11_must_9 ⟨Nat.le_of_ble_eq_true rfl, Nat.le_of_ble_eq_true rfl⟩) hD hS hA (fun w1 H locs hw hP hD hS => ?_)
    subst hw
    refine lv_goto (tgt := 20) hx hb dX11_must_12 (by decide) ?_
    exact q_vret C hr hlocks hK hP hD hS (Nat.le_of_ble_eq_true rfl) (Nat.le_of_ble_eq_true rfl) dX11_must_20 (by cases hB; rfl)
theorem cr_must {l : Launch} {dC : Nat → ClassId} {dI : Nat → Nat → Nat} {cB cI cJ cZ cS : ClassId} {h : Nat} {a : Nat → Nat} {s' : RS} {s : RS} {x1 : Int32} (hB : r_must s x1 = some s') : CV l yX11_must wsX11_must ({ frames := 2, cells := 0, slots := 0, locals := 41 }) (dC, dI) (tysA cB cI cJ cZ cS) (mwS cB cI cJ cZ h a s) [.ref h, .int x1] (fun u => u = (mwS cB cI cJ cZ h a s')) :=
  CV_of (cc := cX11_must) (maxL := 2) (ret := none) (by decide) rfl (Nat.le_of_ble_eq_true rfl) (br_must _ _ hB)
theorem LX11_plain_40 : Cond.fieldLink RX11 40 "GuessFerryModel" "waves" "[I" ∈ wsX11_plain := by decide +kernel
theorem LX11_plain_49 : Cond.fieldLink RX11 49 "GuessFerryModel" "parties" "[I" ∈ wsX11_plain := by decide +kernel
theorem LX11_plain_58 : Cond.fieldLink RX11 58 "GuessFerryModel" "seed" "[I" ∈ wsX11_plain := by decide +kernel
theorem LX11_plain_61 : Cond.fieldLink RX11 61 "GuessFerryModel" "lawFirst" "[I" ∈ wsX11_plain := by decide +kernel
theorem LX11_plain_64 : Cond.fieldLink RX11 64 "GuessFerryModel" "lawLast" "[I" ∈ wsX11_plain := by decide +kernel
theorem inX11_plain_X11 : ∀ w ∈ u_ws RX11 TX11 58, w ∈ wsX11_plain := fun _ h => List.mem_cons_of_mem _ (List.mem_append_right _ h)
set_option maxHeartbeats 4000000 in
set_option maxRecDepth 100000 in
theorem br_plain_23 {l : Launch} {dC : Nat → ClassId} {dI : Nat → Nat → Nat} {cB cI cJ cZ cS : ClassId} {h : Nat} {a : Nat → Nat} {as : List Value} {s' : RS} {k23 : RS → Int32 → Int32 → Option RS} (hk23 : ∀ (s : RS) (x1 : Int32) (x2 : Int32), k23 s x1 x2 = some s' → BlkV l yX11_plain wsX11_plain ({ frames := 0, cells := 0, slots := 0, locals := 0 }) cX11_plain 3 none (dC, dI) (tysA cB cI cJ cZ cS) as 23 (mwS cB cI cJ cZ h a s) [(0, .ref h), (1, .int x1), (2, .int x2)] [] (fun u => u = (mwS cB cI cJ cZ h a s'))) (s : RS) (x1 : Int32) (x2 : Int32) (hB : r_plain_23 k23 s x1 x2 = some s') : BlkV l yX11_plain wsX11_plain ({ frames := 0, cells := 0, slots := 0, locals := 0 }) cX11_plain 3 none (dC, dI) (tysA cB cI cJ cZ cS) as 23 (mwS cB cI cJ cZ h a s) [(0, .ref h), (1, .int x1), (2, .int x2)] [] (fun u => u = (mwS cB cI cJ cZ h a s')) := by
  intro p e s0 m below meth c A E H locs ls hP hD hS hl
  obtain ⟨C, hr, hlocks, hA, hK, hN⟩ := id E
  obtain ⟨hx, hb, hml, hown, hts⟩ := id C
  unfold r_plain_23 at hB
  refine lv_iload_n hx hb dX11_plain_23 rfl (lv_at hl 2 rfl) ?_
  refine lv_iconst (v := 4) hx hb dX11_plain_24 (by decide) ?_
  refine lv_icmp_ge (tgt := 56) hx hb dX11_plain_25 (by decide) (fun c1 => ?_) (fun c1 => ?_)
  · have hB := if_p hB c1
    exact q_vret C hr hlocks hK hP hD hS (Nat.le_of_ble_eq_true rfl) (Nat.le_of_ble_eq_true rfl) dX11_plain_56 (by cases hB; rfl)
  · have hB := if_n hB c1
    refine lv_aload_n hx hb dX11_plain_28 rfl (lv_at hl 0 rfl) ?_
    refine q_get (v := .ref (a 27)) C inX11_plain_X11 hK hP 0 rfl rfl 27 (by decide) rfl LX11_plain_61 rfl dX11_plain_29 ?_
    refine lv_iconst (v := 4) hx hb dX11_plain_32 (by decide) ?_
    refine lv_iload_n hx hb dX11_plain_33 rfl (lv_at hl 1 rfl) ?_
    refine lv_imul hx hb dX11_plain_34 ?_
    refine lv_iload_n hx hb dX11_plain_35 rfl (lv_at hl 2 rfl) ?_
    refine lv_iadd hx hb dX11_plain_36 ?_
    refine lv_iconst (v := 0) hx hb dX11_plain_37 (by decide) ?_
    obtain ⟨g2, hB⟩ := guard_inv hB
    obtain ⟨s3, hs4, hB⟩ := letS_inv hB
    refine q_iast (f2 := (upd (s.f 27) (Int32.toNatClampNeg ((4 * x1) + x2)) 0)) (w2 := (mwS cB cI cJ cZ h a s3)) C hK hP hD hS 15 1 rfl rfl (vpb_in g2) dX11_plain_38 rfl (mwS_f27 hs4) (fun H locs hP hD hS => ?_)
    refine lv_aload_n hx hb dX11_plain_39 rfl (lv_at hl 0 rfl) ?_
    refine q_get (v := .ref (a 28)) C inX11_plain_X11 hK hP 0 rfl rfl 28 (by decide) rfl LX11_plain_64 rfl dX11_plain_40 ?_
    refine lv_iconst (v := 4) hx hb dX11_plain_43 (by decide) ?_
    refine lv_iload_n hx hb dX11_plain_44 rfl (lv_at hl 1 rfl) ?_
    refine lv_imul hx hb dX11_plain_45 ?_
    refine lv_iload_n hx hb dX11_plain_46 rfl (lv_at hl 2 rfl) ?_
    refine lv_iadd hx hb dX11_plain_47 ?_
    refine lv_iconst (v := 0) hx hb dX11_plain_48 (by decide) ?_
    obtain ⟨g5, hB⟩ := guard_inv hB
    obtain ⟨s6, hs7, hB⟩ := letS_inv hB
    refine q_iast (f2 := (upd (s3.f 28) (Int32.toNatClampNeg ((4 * x1) + x2)) 0)) (w2 := (mwS cB cI cJ cZ h a s6)) C hK hP hD hS 16 1 rfl rfl (vpb_in g5) dX11_plain_49 rfl (mwS_f28 hs7) (fun H locs hP hD hS => ?_)
    refine lv_iinc (v := (x2 + 1)) (lv' := [(2, .int (x2 + 1)), (0, .ref h), (1, .int x1)]) hx hb dX11_plain_50 hl (k := 2) rfl (rfl) (by decide) rfl (fun ls hl => ?_)
    refine lv_goto (tgt := 23) hx hb dX11_plain_53 (by decide) ?_
    exact hk23 _ _ _ hB p e s0 m below meth c A E H locs ls hP hD hS (lv_sub hl [1, 2, 0] rfl)
theorem br_plain_23L {l : Launch} {dC : Nat → ClassId} {dI : Nat → Nat → Nat} {cB cI cJ cZ cS : ClassId} {h : Nat} {a : Nat → Nat} {as : List Value} {s' : RS} : ∀ (n : Nat) (s : RS) (x1 : Int32) (x2 : Int32), r_plain_23L n s x1 x2 = some s' → BlkV l yX11_plain wsX11_plain ({ frames := 0, cells := 0, slots := 0, locals := 0 }) cX11_plain 3 none (dC, dI) (tysA cB cI cJ cZ cS) as 23 (mwS cB cI cJ cZ h a s) [(0, .ref h), (1, .int x1), (2, .int x2)] [] (fun u => u = (mwS cB cI cJ cZ h a s')) := by
  intro n
  induction n with
  | zero => intro s x1 x2 hB; exact none_ne hB
  | succ n ih => intro s x1 x2 hB; exact br_plain_23 ih _ _ _ hB
set_option maxHeartbeats 4000000 in
set_option maxRecDepth 100000 in
theorem br_plain {l : Launch} {dC : Nat → ClassId} {dI : Nat → Nat → Nat} {cB cI cJ cZ cS : ClassId} {h : Nat} {a : Nat → Nat} {as : List Value} {s' : RS} (s : RS) (x1 : Int32) (hB : r_plain s x1 = some s') : BlkV l yX11_plain wsX11_plain ({ frames := 0, cells := 0, slots := 0, locals := 0 }) cX11_plain 3 none (dC, dI) (tysA cB cI cJ cZ cS) as 0 (mwS cB cI cJ cZ h a s) [(0, .ref h), (1, .int x1)] [] (fun u => u = (mwS cB cI cJ cZ h a s')) := by
  intro p e s0 m below meth c A E H locs ls hP hD hS hl
  obtain ⟨C, hr, hlocks, hA, hK, hN⟩ := id E
  obtain ⟨hx, hb, hml, hown, hts⟩ := id C
  unfold r_plain at hB
  refine lv_aload_n hx hb dX11_plain_0 rfl (lv_at hl 0 rfl) ?_
  refine q_get (v := .ref (a 20)) C inX11_plain_X11 hK hP 0 rfl rfl 20 (by decide) rfl LX11_plain_40 rfl dX11_plain_1 ?_
  refine lv_iload_n hx hb dX11_plain_4 rfl (lv_at hl 1 rfl) ?_
  refine lv_iconst (v := 0) hx hb dX11_plain_5 (by decide) ?_
  obtain ⟨g1, hB⟩ := guard_inv hB
  obtain ⟨s2, hs3, hB⟩ := letS_inv hB
  refine q_iast (f2 := (upd (s.f 20) (Int32.toNatClampNeg x1) 0)) (w2 := (mwS cB cI cJ cZ h a s2)) C hK hP hD hS 8 1 rfl rfl (vpb_in g1) dX11_plain_6 rfl (mwS_f20 hs3) (fun H locs hP hD hS => ?_)
  refine lv_aload_n hx hb dX11_plain_7 rfl (lv_at hl 0 rfl) ?_
  refine q_get (v := .ref (a 23)) C inX11_plain_X11 hK hP 0 rfl rfl 23 (by decide) rfl LX11_plain_49 rfl dX11_plain_8 ?_
  refine lv_iload_n hx hb dX11_plain_11 rfl (lv_at hl 1 rfl) ?_
  refine lv_iconst (v := 0) hx hb dX11_plain_12 (by decide) ?_
  obtain ⟨g4, hB⟩ := guard_inv hB
  obtain ⟨s5, hs6, hB⟩ := letS_inv hB
  refine q_iast (f2 := (upd (s2.f 23) (Int32.toNatClampNeg x1) 0)) (w2 := (mwS cB cI cJ cZ h a s5)) C hK hP hD hS 11 1 rfl rfl (vpb_in g4) dX11_plain_13 rfl (mwS_f23 hs6) (fun H locs hP hD hS => ?_)
  refine lv_aload_n hx hb dX11_plain_14 rfl (lv_at hl 0 rfl) ?_
  refine q_get (v := .ref (a 26)) C inX11_plain_X11 hK hP 0 rfl rfl 26 (by decide) rfl LX11_plain_58 rfl dX11_plain_15 ?_
  refine lv_iload_n hx hb dX11_plain_18 rfl (lv_at hl 1 rfl) ?_
  refine lv_iconst (v := 0) hx hb dX11_plain_19 (by decide) ?_
  obtain ⟨g7, hB⟩ := guard_inv hB
  obtain ⟨s8, hs9, hB⟩ := letS_inv hB
  refine q_iast (f2 := (upd (s5.f 26) (Int32.toNatClampNeg x1) 0)) (w2 := (mwS cB cI cJ cZ h a s8)) C hK hP hD hS 14 1 rfl rfl (vpb_in g7) dX11_plain_20 rfl (mwS_f26 hs9) (fun H locs hP hD hS => ?_)
  refine lv_iconst (v := 0) hx hb dX11_plain_21 (by decide) ?_
  refine lv_istore_n (lv' := [(2, .int 0), (0, .ref h), (1, .int x1)]) hx hb dX11_plain_22 rfl hl (by decide) rfl (fun ls hl => ?_)
  exact br_plain_23L fu _ _ _ hB p e s0 m below meth c A E H locs ls hP hD hS (lv_sub hl [1, 2, 0] rfl)
theorem cr_plain {l : Launch} {dC : Nat → ClassId} {dI : Nat → Nat → Nat} {cB cI cJ cZ cS : ClassId} {h : Nat} {a : Nat → Nat} {s' : RS} {s : RS} {x1 : Int32} (hB : r_plain s x1 = some s') : CV l yX11_plain wsX11_plain ({ frames := 0, cells := 0, slots := 0, locals := 0 }) (dC, dI) (tysA cB cI cJ cZ cS) (mwS cB cI cJ cZ h a s) [.ref h, .int x1] (fun u => u = (mwS cB cI cJ cZ h a s')) :=
  CV_of (cc := cX11_plain) (maxL := 3) (ret := none) (by decide) rfl (Nat.le_of_ble_eq_true rfl) (br_plain _ _ hB)
theorem LX11_roomFor_185 : Cond.fieldLink RX11 185 "GuessFerryModel" "fault" "I" ∈ wsX11_roomFor := by decide +kernel
theorem inX11_roomFor_X11 : ∀ w ∈ u_ws RX11 TX11 58, w ∈ wsX11_roomFor := by decide +kernel
set_option maxHeartbeats 4000000 in
set_option maxRecDepth 100000 in
theorem br_roomFor_10 {l : Launch} {dC : Nat → ClassId} {dI : Nat → Nat → Nat} {cB cI cJ cZ cS : ClassId} {h : Nat} {a : Nat → Nat} {as : List Value} {s' : RS} (s : RS) (hB : r_roomFor_10 s = some s') : BlkV l yX11_roomFor wsX11_roomFor ({ frames := 2, cells := 0, slots := 0, locals := 41 }) cX11_roomFor 3 none (dC, dI) (tysA cB cI cJ cZ cS) as 10 (mwS cB cI cJ cZ h a s) [(0, .ref h)] [] (fun u => u = (mwS cB cI cJ cZ h a s')) := by
  intro p e s0 m below meth c A E H locs ls hP hD hS hl
  obtain ⟨C, hr, hlocks, hA, hK, hN⟩ := id E
  obtain ⟨hx, hb, hml, hown, hts⟩ := id C
  unfold r_roomFor_10 at hB
  refine lv_aload_n hx hb dX11_roomFor_10 rfl (lv_at hl 0 rfl) ?_
  refine q_get (v := .int (s.v 13)) C inX11_roomFor_X11 hK hP 0 rfl rfl 13 (by decide) rfl LX11_roomFor_185 rfl dX11_roomFor_11 ?_
  refine lv_if_ne (tgt := 21) hx hb dX11_roomFor_14 (by decide) (fun c1 => ?_) (fun c1 => ?_)
  · have hB := if_n hB c1
    exact q_vret C hr hlocks hK hP hD hS (Nat.le_of_ble_eq_true rfl) (Nat.le_of_ble_eq_true rfl) dX11_roomFor_21 (by cases hB; rfl)
  · have hB := if_p hB c1
    refine lv_aload_n hx hb dX11_roomFor_17 rfl (lv_at hl 0 rfl) ?_
    obtain ⟨s2, hc, hB⟩ := bindP_inv hB
    refine q_govF (va_runV (As := []) (rest := []) C (cr_goesOn hc _) (cwV 0 hts gX11_roomFor_X11_goesOn rfl rfl rfl (by decide +kernel) ⟨Nat.le_of_ble_eq_true rfl, Nat.le_of_ble_eq_true rfl⟩) (q_preV hK hP (ci := 11) (q0 := 0) rfl rfl rfl (q_preF hN hK hP hD)) rfl rfl hl.1 rfl (lv_room (Nat.le_of_ble_eq_true rfl)) dX11_roomFor_18 ⟨Nat.le_of_ble_eq_true rfl, Nat.le_of_ble_eq_true rfl⟩) hD hS hA (fun w1 H locs hw hP hD hS => ?_)
    subst hw
    exact q_vret C hr hlocks hK hP hD hS (Nat.le_of_ble_eq_true rfl) (Nat.le_of_ble_eq_true rfl) dX11_roomFor_21 (by cases hB; rfl)
set_option maxHeartbeats 4000000 in
set_option maxRecDepth 100000 in
theorem br_roomFor {l : Launch} {dC : Nat → ClassId} {dI : Nat → Nat → Nat} {cB cI cJ cZ cS : ClassId} {h : Nat} {a : Nat → Nat} {as : List Value} {s' : RS} (s : RS) (x1 : Int32) (x2 : Int32) (hB : r_roomFor s x1 x2 = some s') : BlkV l yX11_roomFor wsX11_roomFor ({ frames := 2, cells := 0, slots := 0, locals := 41 }) cX11_roomFor 3 none (dC, dI) (tysA cB cI cJ cZ cS) as 0 (mwS cB cI cJ cZ h a s) [(0, .ref h), (1, .int x1), (2, .int x2)] [] (fun u => u = (mwS cB cI cJ cZ h a s')) := by
  intro p e s0 m below meth c A E H locs ls hP hD hS hl
  obtain ⟨C, hr, hlocks, hA, hK, hN⟩ := id E
  obtain ⟨hx, hb, hml, hown, hts⟩ := id C
  unfold r_roomFor at hB
  refine lv_iload_n hx hb dX11_roomFor_0 rfl (lv_at hl 1 rfl) ?_
  refine lv_iload_n hx hb dX11_roomFor_1 rfl (lv_at hl 2 rfl) ?_
  refine lv_icmp_ne (tgt := 10) hx hb dX11_roomFor_2 (by decide) (fun c1 => ?_) (fun c1 => ?_)
  · have hB := if_n hB c1
    exact br_roomFor_10 _ hB p e s0 m below meth c A E H locs ls hP hD hS (lv_sub hl [0] rfl)
  · have hB := if_p hB c1
    refine lv_aload_n hx hb dX11_roomFor_5 rfl (lv_at hl 0 rfl) ?_
    refine lv_iconst (v := 2) hx hb dX11_roomFor_6 (by decide) ?_
    obtain ⟨s2, hc, hB⟩ := bindP_inv hB
    refine q_govF (va_runV (As := [.int 2]) (rest := []) C (cr_fail hc _) (cwV 1 hts gX11_roomFor_X11_fail rfl rfl rfl (by decide +kernel) ⟨Nat.le_of_ble_eq_true rfl, Nat.le_of_ble_eq_true rfl⟩) (q_preV hK hP (ci := 11) (q0 := 0) rfl rfl rfl (q_preF hN hK hP hD)) rfl rfl hl.1 rfl (lv_room (Nat.le_of_ble_eq_true rfl)) dX11_roomFor_7 ⟨Nat.le_of_ble_eq_true rfl, Nat.le_of_ble_eq_true rfl⟩) hD hS hA (fun w1 H locs hw hP hD hS => ?_)
    subst hw
    exact br_roomFor_10 _ hB p e s0 m below meth c A E H locs ls hP hD hS (lv_sub hl [0] rfl)
theorem cr_roomFor {l : Launch} {dC : Nat → ClassId} {dI : Nat → Nat → Nat} {cB cI cJ cZ cS : ClassId} {h : Nat} {a : Nat → Nat} {s' : RS} {s : RS} {x1 : Int32} {x2 : Int32} (hB : r_roomFor s x1 x2 = some s') : CV l yX11_roomFor wsX11_roomFor ({ frames := 2, cells := 0, slots := 0, locals := 41 }) (dC, dI) (tysA cB cI cJ cZ cS) (mwS cB cI cJ cZ h a s) [.ref h, .int x1, .int x2] (fun u => u = (mwS cB cI cJ cZ h a s')) :=
  CV_of (cc := cX11_roomFor) (maxL := 3) (ret := none) (by decide) rfl (Nat.le_of_ble_eq_true rfl) (br_roomFor _ _ _ hB)
theorem LX11_bounded_185 : Cond.fieldLink RX11 185 "GuessFerryModel" "fault" "I" ∈ wsX11_bounded := by decide +kernel
theorem LX11_bounded_188 : Cond.fieldLink RX11 188 "GuessFerryModel" "t" "I" ∈ wsX11_bounded := by decide +kernel
theorem LX11_bounded_27 : Cond.fieldLink RX11 27 "GuessFerryModel" "tValue" "[I" ∈ wsX11_bounded := by decide +kernel
theorem inX11_bounded_X11 : ∀ w ∈ u_ws RX11 TX11 58, w ∈ wsX11_bounded := by decide +kernel
set_option maxHeartbeats 4000000 in
set_option maxRecDepth 100000 in
theorem br_bounded_15 {l : Launch} {dC : Nat → ClassId} {dI : Nat → Nat → Nat} {cB cI cJ cZ cS : ClassId} {h : Nat} {a : Nat → Nat} {as : List Value} {r : Int32} {s' : RS} (s : RS) (hB : r_bounded_15 s = some (r, s')) : BlkI l yX11_bounded wsX11_bounded ({ frames := 2, cells := 0, slots := 0, locals := 41 }) cX11_bounded 3 (some .int) (dC, dI) (tysA cB cI cJ cZ cS) as 15 (mwS cB cI cJ cZ h a s) [(0, .ref h)] [] (fun x u => x = r ∧ u = (mwS cB cI cJ cZ h a s')) := by
  intro p e s0 m below meth c A E H locs ls hP hD hS hl
  obtain ⟨C, hr, hlocks, hA, hK, hN⟩ := id E
  obtain ⟨hx, hb, hml, hown, hts⟩ := id C
  unfold r_bounded_15 at hB
  refine lv_aload_n hx hb dX11_bounded_15 rfl (lv_at hl 0 rfl) ?_
  refine lv_iconst (v := 1) hx hb dX11_bounded_16 (by decide) ?_
  obtain ⟨s1, hc, hB⟩ := bindP_inv hB
  refine q_govF (va_runV (As := [.int 1]) (rest := []) C (cr_fail hc _) (cwV 1 hts gX11_bounded_X11_fail rfl rfl rfl (by decide +kernel) ⟨Nat.le_of_ble_eq_true rfl, Nat.le_of_ble_eq_true rfl⟩) (q_preV hK hP (ci := 11) (q0 := 0) rfl rfl rfl (q_preF hN hK hP hD)) rfl rfl hl.1 rfl (lv_room (Nat.le_of_ble_eq_true rfl)) dX11_bounded_17 ⟨Nat.le_of_ble_eq_true rfl, Nat.le_of_ble_eq_true rfl⟩) hD hS hA (fun w1 H locs hw hP hD hS => ?_)
  subst hw
  refine lv_iconst (v := 0) hx hb dX11_bounded_20 (by decide) ?_
  exact q_iret C hr hlocks hK hP hD hS (Nat.le_of_ble_eq_true rfl) (Nat.le_of_ble_eq_true rfl) dX11_bounded_21 (by cases hB; exact ⟨rfl, rfl⟩)
set_option maxHeartbeats 4000000 in
set_option maxRecDepth 100000 in
theorem br_bounded_46 {l : Launch} {dC : Nat → ClassId} {dI : Nat → Nat → Nat} {cB cI cJ cZ cS : ClassId} {h : Nat} {a : Nat → Nat} {as : List Value} {r : Int32} {s' : RS} (s : RS) (x2 : Int32) (hB : r_bounded_46 s x2 = some (r, s')) : BlkI l yX11_bounded wsX11_bounded ({ frames := 2, cells := 0, slots := 0, locals := 41 }) cX11_bounded 3 (some .int) (dC, dI) (tysA cB cI cJ cZ cS) as 46 (mwS cB cI cJ cZ h a s) [(0, .ref h), (2, .int x2)] [] (fun x u => x = r ∧ u = (mwS cB cI cJ cZ h a s')) := by
  intro p e s0 m below meth c A E H locs ls hP hD hS hl
  obtain ⟨C, hr, hlocks, hA, hK, hN⟩ := id E
  obtain ⟨hx, hb, hml, hown, hts⟩ := id C
  unfold r_bounded_46 at hB
  refine lv_aload_n hx hb dX11_bounded_46 rfl (lv_at hl 0 rfl) ?_
  obtain ⟨s1, hc, hB⟩ := bindP_inv hB
  refine q_govF (va_runV (As := []) (rest := []) C (cr_goesOn hc _) (cwV 0 hts gX11_bounded_X11_goesOn rfl rfl rfl (by decide +kernel) ⟨Nat.le_of_ble_eq_true rfl, Nat.le_of_ble_eq_true rfl⟩) (q_preV hK hP (ci := 11) (q0 := 0) rfl rfl rfl (q_preF hN hK hP hD)) rfl rfl hl.1 rfl (lv_room (Nat.le_of_ble_eq_true rfl)) dX11_bounded_47 ⟨Nat.le_of_ble_eq_true rfl, Nat.le_of_ble_eq_true rfl⟩) hD hS hA (fun w1 H locs hw hP hD hS => ?_)
  subst hw
  refine lv_iload_n hx hb dX11_bounded_50 rfl (lv_at hl 1 rfl) ?_
  exact q_iret C hr hlocks hK hP hD hS (Nat.le_of_ble_eq_true rfl) (Nat.le_of_ble_eq_true rfl) dX11_bounded_51 (by cases hB; exact ⟨rfl, rfl⟩)
set_option maxHeartbeats 4000000 in
set_option maxRecDepth 100000 in
theorem br_bounded {l : Launch} {dC : Nat → ClassId} {dI : Nat → Nat → Nat} {cB cI cJ cZ cS : ClassId} {h : Nat} {a : Nat → Nat} {as : List Value} {r : Int32} {s' : RS} (s : RS) (x1 : Int32) (hB : r_bounded s x1 = some (r, s')) : BlkI l yX11_bounded wsX11_bounded ({ frames := 2, cells := 0, slots := 0, locals := 41 }) cX11_bounded 3 (some .int) (dC, dI) (tysA cB cI cJ cZ cS) as 0 (mwS cB cI cJ cZ h a s) [(0, .ref h), (1, .int x1)] [] (fun x u => x = r ∧ u = (mwS cB cI cJ cZ h a s')) := by
  intro p e s0 m below meth c A E H locs ls hP hD hS hl
  obtain ⟨C, hr, hlocks, hA, hK, hN⟩ := id E
  obtain ⟨hx, hb, hml, hown, hts⟩ := id C
  unfold r_bounded at hB
  refine lv_aload_n hx hb dX11_bounded_0 rfl (lv_at hl 0 rfl) ?_
  refine q_get (v := .int (s.v 13)) C inX11_bounded_X11 hK hP 0 rfl rfl 13 (by decide) rfl LX11_bounded_185 rfl dX11_bounded_1 ?_
  refine lv_if_gt (tgt := 15) hx hb dX11_bounded_4 (by decide) (fun c1 => ?_) (fun c1 => ?_)
  · have hB := if_p hB c1
    exact br_bounded_15 _ hB p e s0 m below meth c A E H locs ls hP hD hS (lv_sub hl [0] rfl)
  · have hB := if_n hB c1
    refine lv_aload_n hx hb dX11_bounded_7 rfl (lv_at hl 0 rfl) ?_
    refine lv_iconst (v := 2) hx hb dX11_bounded_8 (by decide) ?_
    obtain ⟨q_, s2, hc, hB⟩ := bindI_inv hB
    refine q_goiF (va_runV (As := [.int 2]) (rest := []) C (cr_is hc _) (cwV 1 hts gX11_bounded_X11_is rfl rfl rfl (by decide +kernel) ⟨Nat.le_of_ble_eq_true rfl, Nat.le_of_ble_eq_true rfl⟩) (q_preV hK hP (ci := 11) (q0 := 0) rfl rfl rfl (q_preF hN hK hP hD)) rfl rfl hl.1 rfl (lv_room (Nat.le_of_ble_eq_true rfl)) dX11_bounded_9 ⟨Nat.le_of_ble_eq_true rfl, Nat.le_of_ble_eq_true rfl⟩) hD hS hA (fun r3 w1 H locs hw hP hD hS => ?_)
    obtain ⟨hq_, hw⟩ := hw; subst hw; subst hq_
    refine lv_if_ne (tgt := 22) hx hb dX11_bounded_12 (by decide) (fun c4 => ?_) (fun c4 => ?_)
    · have hB := if_n hB c4
      refine lv_aload_n hx hb dX11_bounded_22 rfl (lv_at hl 0 rfl) ?_
      refine q_get (v := .ref (a 7)) C inX11_bounded_X11 hK hP 0 rfl rfl 7 (by decide) rfl LX11_bounded_27 rfl dX11_bounded_23 ?_
      refine lv_aload_n hx hb dX11_bounded_26 rfl (lv_at hl 0 rfl) ?_
      refine q_get (v := .int (s2.v 11)) C inX11_bounded_X11 hK hP 0 rfl rfl 11 (by decide) rfl LX11_bounded_188 rfl dX11_bounded_27 ?_
      obtain ⟨g5, hB⟩ := guard_inv hB
      refine q_iald (x := (s2.f 7 (Int32.toNatClampNeg (s2.v 11)))) C hK hP 5 1 rfl rfl (vpb_in g5) dX11_bounded_30 rfl ?_
      refine lv_istore_n (lv' := [(2, .int (s2.f 7 (Int32.toNatClampNeg (s2.v 11)))), (0, .ref h), (1, .int x1)]) hx hb dX11_bounded_31 rfl hl (by decide) rfl (fun ls hl => ?_)
      refine lv_iload_n hx hb dX11_bounded_32 rfl (lv_at hl 0 rfl) ?_
      refine lv_iload_n hx hb dX11_bounded_33 rfl (lv_at hl 2 rfl) ?_
      refine lv_icmp_le (tgt := 46) hx hb dX11_bounded_34 (by decide) (fun c6 => ?_) (fun c6 => ?_)
      · have hB := if_p hB c6
        exact br_bounded_46 _ _ hB p e s0 m below meth c A E H locs ls hP hD hS (lv_sub hl [1, 0] rfl)
      · have hB := if_n hB c6
        refine lv_aload_n hx hb dX11_bounded_37 rfl (lv_at hl 1 rfl) ?_
        refine lv_iconst (v := 5) hx hb dX11_bounded_38 (by decide) ?_
        refine lv_aload_n hx hb dX11_bounded_39 rfl (lv_at hl 1 rfl) ?_
        refine q_get (v := .int (s2.v 11)) C inX11_bounded_X11 hK hP 0 rfl rfl 11 (by decide) rfl LX11_bounded_188 rfl dX11_bounded_40 ?_
        obtain ⟨s7, hc, hB⟩ := bindP_inv hB
        refine q_govF (va_runV (As := [.int 5, .int (s2.v 11)]) (rest := []) C (cr_wrong hc _) (cwV 2 hts gX11_bounded_X11_wrong rfl rfl rfl (by decide +kernel) ⟨Nat.le_of_ble_eq_true rfl, Nat.le_of_ble_eq_true rfl⟩) (q_preV hK hP (ci := 11) (q0 := 0) rfl rfl rfl (q_preF hN hK hP hD)) rfl rfl hl.1 rfl (lv_room (Nat.le_of_ble_eq_true rfl)) dX11_bounded_43 ⟨Nat.le_of_ble_eq_true rfl, Nat.le_of_ble_eq_true rfl⟩) hD hS hA (fun w1 H locs hw hP hD hS => ?_)
        subst hw
        exact br_bounded_46 _ _ hB p e s0 m below meth c A E H locs ls hP hD hS (lv_sub hl [1, 0] rfl)
    · have hB := if_p hB c4
      exact br_bounded_15 _ hB p e s0 m below meth c A E H locs ls hP hD hS (lv_sub hl [0] rfl)
theorem cr_bounded {l : Launch} {dC : Nat → ClassId} {dI : Nat → Nat → Nat} {cB cI cJ cZ cS : ClassId} {h : Nat} {a : Nat → Nat} {r : Int32} {s' : RS} {s : RS} {x1 : Int32} (hB : r_bounded s x1 = some (r, s')) : CI l yX11_bounded wsX11_bounded ({ frames := 2, cells := 0, slots := 0, locals := 41 }) (dC, dI) (tysA cB cI cJ cZ cS) (mwS cB cI cJ cZ h a s) [.ref h, .int x1] (fun x u => x = r ∧ u = (mwS cB cI cJ cZ h a s')) :=
  CI_of (cc := cX11_bounded) (maxL := 3) (ret := (some .int)) (by decide) rfl (Nat.le_of_ble_eq_true rfl) (br_bounded _ _ hB)
theorem LX11_tellWave_185 : Cond.fieldLink RX11 185 "GuessFerryModel" "fault" "I" ∈ wsX11_tellWave := by decide +kernel
theorem LX11_tellWave_188 : Cond.fieldLink RX11 188 "GuessFerryModel" "t" "I" ∈ wsX11_tellWave := by decide +kernel
theorem LX11_tellWave_218 : Cond.fieldLink RX11 218 "GuessFerryModel" "side" "I" ∈ wsX11_tellWave := by decide +kernel
theorem LX11_tellWave_40 : Cond.fieldLink RX11 40 "GuessFerryModel" "waves" "[I" ∈ wsX11_tellWave := by decide +kernel
theorem LX11_tellWave_43 : Cond.fieldLink RX11 43 "GuessFerryModel" "oddsOf" "[I" ∈ wsX11_tellWave := by decide +kernel
theorem inX11_tellWave_X11 : ∀ w ∈ u_ws RX11 TX11 58, w ∈ wsX11_tellWave := by decide +kernel
set_option maxHeartbeats 4000000 in
set_option maxRecDepth 100000 in
theorem br_tellWave_93 {l : Launch} {dC : Nat → ClassId} {dI : Nat → Nat → Nat} {cB cI cJ cZ cS : ClassId} {h : Nat} {a : Nat → Nat} {as : List Value} {s' : RS} (s : RS) (hB : r_tellWave_93 s = some s') : BlkV l yX11_tellWave wsX11_tellWave ({ frames := 3, cells := 0, slots := 0, locals := 63 }) cX11_tellWave 5 none (dC, dI) (tysA cB cI cJ cZ cS) as 93 (mwS cB cI cJ cZ h a s) [(0, .ref h)] [] (fun u => u = (mwS cB cI cJ cZ h a s')) := by
  intro p e s0 m below meth c A E H locs ls hP hD hS hl
  obtain ⟨C, hr, hlocks, hA, hK, hN⟩ := id E
  obtain ⟨hx, hb, hml, hown, hts⟩ := id C
  unfold r_tellWave_93 at hB
  refine lv_aload_n hx hb dX11_tellWave_93 rfl (lv_at hl 0 rfl) ?_
  refine lv_iconst (v := 4) hx hb dX11_tellWave_94 (by decide) ?_
  obtain ⟨s1, hc, hB⟩ := bindP_inv hB
  refine q_govF (va_runV (As := [.int 4]) (rest := []) C (cr_must hc _) (cwV 1 hts gX11_tellWave_X11_must rfl rfl rfl (by decide +kernel) ⟨Nat.le_of_ble_eq_true rfl, Nat.le_of_ble_eq_true rfl⟩) (q_preV hK hP (ci := 11) (q0 := 0) rfl rfl rfl (q_preF hN hK hP hD)) rfl rfl hl.1 rfl (lv_room (Nat.le_of_ble_eq_true rfl)) dX11_tellWave_95 ⟨Nat.le_of_ble_eq_true rfl, Nat.le_of_ble_eq_true rfl⟩) hD hS hA (fun w1 H locs hw hP hD hS => ?_)
  subst hw
  refine lv_aload_n hx hb dX11_tellWave_98 rfl (lv_at hl 0 rfl) ?_
  refine q_get (v := .ref (a 20)) C inX11_tellWave_X11 hK hP 0 rfl rfl 20 (by decide) rfl LX11_tellWave_40 rfl dX11_tellWave_99 ?_
  refine lv_aload_n hx hb dX11_tellWave_102 rfl (lv_at hl 0 rfl) ?_
  refine q_get (v := .int (s1.v 19)) C inX11_tellWave_X11 hK hP 0 rfl rfl 19 (by decide) rfl LX11_tellWave_218 rfl dX11_tellWave_103 ?_
  refine lv_dup2_11 hx hb dX11_tellWave_106 rfl rfl ?_
  obtain ⟨g2, hB⟩ := guard_inv hB
  refine q_iald (x := (s1.f 20 (Int32.toNatClampNeg (s1.v 19)))) C hK hP 8 1 rfl rfl (vpb_in g2) dX11_tellWave_107 rfl ?_
  refine lv_iconst (v := 1) hx hb dX11_tellWave_108 (by decide) ?_
  refine lv_iadd hx hb dX11_tellWave_109 ?_
  obtain ⟨g3, hB⟩ := guard_inv hB
  obtain ⟨s4, hs5, hB⟩ := letS_inv hB
  refine q_iast (f2 := (upd (s1.f 20) (Int32.toNatClampNeg (s1.v 19)) ((s1.f 20 (Int32.toNatClampNeg (s1.v 19))) + 1))) (w2 := (mwS cB cI cJ cZ h a s4)) C hK hP hD hS 8 1 rfl rfl (vpb_in g3) dX11_tellWave_110 rfl (mwS_f20 hs5) (fun H locs hP hD hS => ?_)
  exact q_vret C hr hlocks hK hP hD hS (Nat.le_of_ble_eq_true rfl) (Nat.le_of_ble_eq_true rfl) dX11_tellWave_111 (by cases hB; rfl)
set_option maxHeartbeats 4000000 in
set_option maxRecDepth 100000 in
theorem br_tellWave_31 {l : Launch} {dC : Nat → ClassId} {dI : Nat → Nat → Nat} {cB cI cJ cZ cS : ClassId} {h : Nat} {a : Nat → Nat} {as : List Value} {s' : RS} {k31 : RS → Int32 → Int32 → Int32 → Int32 → Option RS} (hk31 : ∀ (s : RS) (x1 : Int32) (x2 : Int32) (x3 : Int32) (x4 : Int32), k31 s x1 x2 x3 x4 = some s' → BlkV l yX11_tellWave wsX11_tellWave ({ frames := 3, cells := 0, slots := 0, locals := 63 }) cX11_tellWave 5 none (dC, dI) (tysA cB cI cJ cZ cS) as 31 (mwS cB cI cJ cZ h a s) [(0, .ref h), (1, .int x1), (2, .int x2), (3, .int x3), (4, .int x4)] [] (fun u => u = (mwS cB cI cJ cZ h a s'))) (s : RS) (x1 : Int32) (x2 : Int32) (x3 : Int32) (x4 : Int32) (hB : r_tellWave_31 k31 s x1 x2 x3 x4 = some s') : BlkV l yX11_tellWave wsX11_tellWave ({ frames := 3, cells := 0, slots := 0, locals := 63 }) cX11_tellWave 5 none (dC, dI) (tysA cB cI cJ cZ cS) as 31 (mwS cB cI cJ cZ h a s) [(0, .ref h), (1, .int x1), (2, .int x2), (3, .int x3), (4, .int x4)] [] (fun u => u = (mwS cB cI cJ cZ h a s')) := by
  intro p e s0 m below meth c A E H locs ls hP hD hS hl
  obtain ⟨C, hr, hlocks, hA, hK, hN⟩ := id E
  obtain ⟨hx, hb, hml, hown, hts⟩ := id C
  unfold r_tellWave_31 at hB
  refine lv_iload hx hb dX11_tellWave_31 (lv_at hl 4 rfl) ?_
  refine lv_bipush (v := 6) hx hb dX11_tellWave_33 (by decide) ?_
  refine lv_icmp_ge (tgt := 76) hx hb dX11_tellWave_35 (by decide) (fun c1 => ?_) (fun c1 => ?_)
  · have hB := if_p hB c1
    refine lv_aload_n hx hb dX11_tellWave_76 rfl (lv_at hl 0 rfl) ?_
    refine q_get (v := .int (s.v 13)) C inX11_tellWave_X11 hK hP 0 rfl rfl 13 (by decide) rfl LX11_tellWave_185 rfl dX11_tellWave_77 ?_
    refine lv_if_ne (tgt := 93) hx hb dX11_tellWave_80 (by decide) (fun c2 => ?_) (fun c2 => ?_)
    · have hB := if_n hB c2
      exact br_tellWave_93 _ hB p e s0 m below meth c A E H locs ls hP hD hS (lv_sub hl [0] rfl)
    · have hB := if_p hB c2
      refine lv_iload_n hx hb dX11_tellWave_83 rfl (lv_at hl 2 rfl) ?_
      refine lv_if_ne (tgt := 93) hx hb dX11_tellWave_84 (by decide) (fun c3 => ?_) (fun c3 => ?_)
      · have hB := if_n hB c3
        exact br_tellWave_93 _ hB p e s0 m below meth c A E H locs ls hP hD hS (lv_sub hl [0] rfl)
      · have hB := if_p hB c3
        refine lv_aload_n hx hb dX11_tellWave_87 rfl (lv_at hl 0 rfl) ?_
        refine lv_iconst (v := 5) hx hb dX11_tellWave_88 (by decide) ?_
        refine lv_iload_n hx hb dX11_tellWave_89 rfl (lv_at hl 3 rfl) ?_
        obtain ⟨s4, hc, hB⟩ := bindP_inv hB
        refine q_govF (va_runV (As := [.int 5, .int x3]) (rest := []) C (cr_wrong hc _) (cwV 2 hts gX11_tellWave_X11_wrong rfl rfl rfl (by decide +kernel) ⟨Nat.le_of_ble_eq_true rfl, Nat.le_of_ble_eq_true rfl⟩) (q_preV hK hP (ci := 11) (q0 := 0) rfl rfl rfl (q_preF hN hK hP hD)) rfl rfl hl.1 rfl (lv_room (Nat.le_of_ble_eq_true rfl)) dX11_tellWave_90 ⟨Nat.le_of_ble_eq_true rfl, Nat.le_of_ble_eq_true rfl⟩) hD hS hA (fun w1 H locs hw hP hD hS => ?_)
        subst hw
        exact br_tellWave_93 _ hB p e s0 m below meth c A E H locs ls hP hD hS (lv_sub hl [0] rfl)
  · have hB := if_n hB c1
    refine lv_aload_n hx hb dX11_tellWave_38 rfl (lv_at hl 0 rfl) ?_
    refine q_get (v := .int (s.v 11)) C inX11_tellWave_X11 hK hP 0 rfl rfl 11 (by decide) rfl LX11_tellWave_188 rfl dX11_tellWave_39 ?_
    refine lv_istore_n (lv' := [(3, .int (s.v 11)), (0, .ref h), (1, .int x1), (2, .int x2), (4, .int x4)]) hx hb dX11_tellWave_42 rfl hl (by decide) rfl (fun ls hl => ?_)
    refine lv_aload_n hx hb dX11_tellWave_43 rfl (lv_at hl 1 rfl) ?_
    refine q_get (v := .ref (a 21)) C inX11_tellWave_X11 hK hP 0 rfl rfl 21 (by decide) rfl LX11_tellWave_43 rfl dX11_tellWave_44 ?_
    refine lv_iload_n hx hb dX11_tellWave_47 rfl (lv_at hl 2 rfl) ?_
    refine lv_iload hx hb dX11_tellWave_48 (lv_at hl 4 rfl) ?_
    refine lv_iadd hx hb dX11_tellWave_50 ?_
    refine lv_aload_n hx hb dX11_tellWave_51 rfl (lv_at hl 1 rfl) ?_
    refine lv_bipush (v := 9) hx hb dX11_tellWave_52 (by decide) ?_
    obtain ⟨q_, s5, hc, hB⟩ := bindI_inv hB
    refine q_goiF (va_runV (As := [.int 9]) (rest := [.int (x1 + x4), .ref (a 21)]) C (cr_bounded hc _) (cwV 1 hts gX11_tellWave_X11_bounded rfl rfl rfl (by decide +kernel) ⟨Nat.le_of_ble_eq_true rfl, Nat.le_of_ble_eq_true rfl⟩) (q_preV hK hP (ci := 11) (q0 := 0) rfl rfl rfl (q_preF hN hK hP hD)) rfl rfl hl.1 rfl (lv_room (Nat.le_of_ble_eq_true rfl)) dX11_tellWave_54 ⟨Nat.le_of_ble_eq_true rfl, Nat.le_of_ble_eq_true rfl⟩) hD hS hA (fun r6 w1 H locs hw hP hD hS => ?_)
    obtain ⟨hq_, hw⟩ := hw; subst hw; subst hq_
    obtain ⟨g7, hB⟩ := guard_inv hB
    obtain ⟨s8, hs9, hB⟩ := letS_inv hB
    refine q_iast (f2 := (upd (s5.f 21) (Int32.toNatClampNeg (x1 + x4)) r6)) (w2 := (mwS cB cI cJ cZ h a s8)) C hK hP hD hS 9 1 rfl rfl (vpb_in g7) dX11_tellWave_57 rfl (mwS_f21 hs9) (fun H locs hP hD hS => ?_)
    refine lv_iload_n hx hb dX11_tellWave_58 rfl (lv_at hl 3 rfl) ?_
    refine lv_aload_n hx hb dX11_tellWave_59 rfl (lv_at hl 1 rfl) ?_
    refine q_get (v := .ref (a 21)) C inX11_tellWave_X11 hK hP 0 rfl rfl 21 (by decide) rfl LX11_tellWave_43 rfl dX11_tellWave_60 ?_
    refine lv_iload_n hx hb dX11_tellWave_63 rfl (lv_at hl 2 rfl) ?_
    refine lv_iload hx hb dX11_tellWave_64 (lv_at hl 4 rfl) ?_
    refine lv_iadd hx hb dX11_tellWave_66 ?_
    obtain ⟨g10, hB⟩ := guard_inv hB
    refine q_iald (x := (s8.f 21 (Int32.toNatClampNeg (x1 + x4)))) C hK hP 9 1 rfl rfl (vpb_in g10) dX11_tellWave_67 rfl ?_
    refine lv_iadd hx hb dX11_tellWave_68 ?_
    refine lv_istore_n (lv' := [(2, .int (x2 + (s8.f 21 (Int32.toNatClampNeg (x1 + x4))))), (3, .int (s.v 11)), (0, .ref h), (1, .int x1), (4, .int x4)]) hx hb dX11_tellWave_69 rfl hl (by decide) rfl (fun ls hl => ?_)
    refine lv_iinc (v := (x4 + 1)) (lv' := [(4, .int (x4 + 1)), (2, .int (x2 + (s8.f 21 (Int32.toNatClampNeg (x1 + x4))))), (3, .int (s.v 11)), (0, .ref h), (1, .int x1)]) hx hb dX11_tellWave_70 hl (k := 4) rfl (rfl) (by decide) rfl (fun ls hl => ?_)
    refine lv_goto (tgt := 31) hx hb dX11_tellWave_73 (by decide) ?_
    exact hk31 _ _ _ _ _ hB p e s0 m below meth c A E H locs ls hP hD hS (lv_sub hl [3, 4, 1, 2, 0] rfl)
theorem br_tellWave_31L {l : Launch} {dC : Nat → ClassId} {dI : Nat → Nat → Nat} {cB cI cJ cZ cS : ClassId} {h : Nat} {a : Nat → Nat} {as : List Value} {s' : RS} : ∀ (n : Nat) (s : RS) (x1 : Int32) (x2 : Int32) (x3 : Int32) (x4 : Int32), r_tellWave_31L n s x1 x2 x3 x4 = some s' → BlkV l yX11_tellWave wsX11_tellWave ({ frames := 3, cells := 0, slots := 0, locals := 63 }) cX11_tellWave 5 none (dC, dI) (tysA cB cI cJ cZ cS) as 31 (mwS cB cI cJ cZ h a s) [(0, .ref h), (1, .int x1), (2, .int x2), (3, .int x3), (4, .int x4)] [] (fun u => u = (mwS cB cI cJ cZ h a s')) := by
  intro n
  induction n with
  | zero => intro s x1 x2 x3 x4 hB; exact none_ne hB
  | succ n ih => intro s x1 x2 x3 x4 hB; exact br_tellWave_31 ih _ _ _ _ _ hB
set_option maxHeartbeats 4000000 in
set_option maxRecDepth 100000 in
theorem br_tellWave {l : Launch} {dC : Nat → ClassId} {dI : Nat → Nat → Nat} {cB cI cJ cZ cS : ClassId} {h : Nat} {a : Nat → Nat} {as : List Value} {s' : RS} (s : RS) (hB : r_tellWave s = some s') : BlkV l yX11_tellWave wsX11_tellWave ({ frames := 3, cells := 0, slots := 0, locals := 63 }) cX11_tellWave 5 none (dC, dI) (tysA cB cI cJ cZ cS) as 0 (mwS cB cI cJ cZ h a s) [(0, .ref h)] [] (fun u => u = (mwS cB cI cJ cZ h a s')) := by
  intro p e s0 m below meth c A E H locs ls hP hD hS hl
  obtain ⟨C, hr, hlocks, hA, hK, hN⟩ := id E
  obtain ⟨hx, hb, hml, hown, hts⟩ := id C
  unfold r_tellWave at hB
  refine lv_bipush (v := 30) hx hb dX11_tellWave_0 (by decide) ?_
  refine lv_aload_n hx hb dX11_tellWave_2 rfl (lv_at hl 0 rfl) ?_
  refine q_get (v := .int (s.v 19)) C inX11_tellWave_X11 hK hP 0 rfl rfl 19 (by decide) rfl LX11_tellWave_218 rfl dX11_tellWave_3 ?_
  refine lv_imul hx hb dX11_tellWave_6 ?_
  refine lv_bipush (v := 6) hx hb dX11_tellWave_7 (by decide) ?_
  refine lv_aload_n hx hb dX11_tellWave_9 rfl (lv_at hl 0 rfl) ?_
  refine q_get (v := .ref (a 20)) C inX11_tellWave_X11 hK hP 0 rfl rfl 20 (by decide) rfl LX11_tellWave_40 rfl dX11_tellWave_10 ?_
  refine lv_aload_n hx hb dX11_tellWave_13 rfl (lv_at hl 0 rfl) ?_
  refine q_get (v := .int (s.v 19)) C inX11_tellWave_X11 hK hP 0 rfl rfl 19 (by decide) rfl LX11_tellWave_218 rfl dX11_tellWave_14 ?_
  obtain ⟨g1, hB⟩ := guard_inv hB
  refine q_iald (x := (s.f 20 (Int32.toNatClampNeg (s.v 19)))) C hK hP 8 1 rfl rfl (vpb_in g1) dX11_tellWave_17 rfl ?_
  refine lv_imul hx hb dX11_tellWave_18 ?_
  refine lv_iadd hx hb dX11_tellWave_19 ?_
  refine lv_istore_n (lv' := [(1, .int ((30 * (s.v 19)) + (6 * (s.f 20 (Int32.toNatClampNeg (s.v 19)))))), (0, .ref h)]) hx hb dX11_tellWave_20 rfl hl (by decide) rfl (fun ls hl => ?_)
  refine lv_iconst (v := 0) hx hb dX11_tellWave_21 (by decide) ?_
  refine lv_istore_n (lv' := [(2, .int 0), (1, .int ((30 * (s.v 19)) + (6 * (s.f 20 (Int32.toNatClampNeg (s.v 19)))))), (0, .ref h)]) hx hb dX11_tellWave_22 rfl hl (by decide) rfl (fun ls hl => ?_)
  refine lv_aload_n hx hb dX11_tellWave_23 rfl (lv_at hl 2 rfl) ?_
  refine q_get (v := .int (s.v 11)) C inX11_tellWave_X11 hK hP 0 rfl rfl 11 (by decide) rfl LX11_tellWave_188 rfl dX11_tellWave_24 ?_
  refine lv_istore_n (lv' := [(3, .int (s.v 11)), (2, .int 0), (1, .int ((30 * (s.v 19)) + (6 * (s.f 20 (Int32.toNatClampNeg (s.v 19)))))), (0, .ref h)]) hx hb dX11_tellWave_27 rfl hl (by decide) rfl (fun ls hl => ?_)
  refine lv_iconst (v := 0) hx hb dX11_tellWave_28 (by decide) ?_
  refine lv_istore (lv' := [(4, .int 0), (3, .int (s.v 11)), (2, .int 0), (1, .int ((30 * (s.v 19)) + (6 * (s.f 20 (Int32.toNatClampNeg (s.v 19)))))), (0, .ref h)]) hx hb dX11_tellWave_29 hl (by decide) rfl (fun ls hl => ?_)
  exact br_tellWave_31L fu _ _ _ _ _ hB p e s0 m below meth c A E H locs ls hP hD hS (lv_sub hl [4, 3, 2, 1, 0] rfl)
theorem cr_tellWave {l : Launch} {dC : Nat → ClassId} {dI : Nat → Nat → Nat} {cB cI cJ cZ cS : ClassId} {h : Nat} {a : Nat → Nat} {s' : RS} {s : RS} (hB : r_tellWave s = some s') : CV l yX11_tellWave wsX11_tellWave ({ frames := 3, cells := 0, slots := 0, locals := 63 }) (dC, dI) (tysA cB cI cJ cZ cS) (mwS cB cI cJ cZ h a s) [.ref h] (fun u => u = (mwS cB cI cJ cZ h a s')) :=
  CV_of (cc := cX11_tellWave) (maxL := 5) (ret := none) (by decide) rfl (Nat.le_of_ble_eq_true rfl) (br_tellWave _ hB)
theorem LX11_tellParty_185 : Cond.fieldLink RX11 185 "GuessFerryModel" "fault" "I" ∈ wsX11_tellParty := by decide +kernel
theorem LX11_tellParty_188 : Cond.fieldLink RX11 188 "GuessFerryModel" "t" "I" ∈ wsX11_tellParty := by decide +kernel
theorem LX11_tellParty_218 : Cond.fieldLink RX11 218 "GuessFerryModel" "side" "I" ∈ wsX11_tellParty := by decide +kernel
theorem LX11_tellParty_30 : Cond.fieldLink RX11 30 "GuessFerryModel" "tName" "[J" ∈ wsX11_tellParty := by decide +kernel
theorem LX11_tellParty_46 : Cond.fieldLink RX11 46 "GuessFerryModel" "nameOf" "[J" ∈ wsX11_tellParty := by decide +kernel
theorem LX11_tellParty_49 : Cond.fieldLink RX11 49 "GuessFerryModel" "parties" "[I" ∈ wsX11_tellParty := by decide +kernel
theorem LX11_tellParty_52 : Cond.fieldLink RX11 52 "GuessFerryModel" "heavyOf" "[I" ∈ wsX11_tellParty := by decide +kernel
theorem LX11_tellParty_55 : Cond.fieldLink RX11 55 "GuessFerryModel" "nerveOf" "[I" ∈ wsX11_tellParty := by decide +kernel
theorem inX11_tellParty_X11 : ∀ w ∈ u_ws RX11 TX11 58, w ∈ wsX11_tellParty := by decide +kernel
set_option maxHeartbeats 4000000 in
set_option maxRecDepth 100000 in
theorem br_tellParty_78 {l : Launch} {dC : Nat → ClassId} {dI : Nat → Nat → Nat} {cB cI cJ cZ cS : ClassId} {h : Nat} {a : Nat → Nat} {as : List Value} {s' : RS} (s : RS) (x1 : Int32) (x2 : Int32) (hB : r_tellParty_78 s x1 x2 = some s') : BlkV l yX11_tellParty wsX11_tellParty ({ frames := 3, cells := 0, slots := 0, locals := 63 }) cX11_tellParty 4 none (dC, dI) (tysA cB cI cJ cZ cS) as 78 (mwS cB cI cJ cZ h a s) [(0, .ref h), (1, .int x1), (2, .int x2)] [] (fun u => u = (mwS cB cI cJ cZ h a s')) := by
  intro p e s0 m below meth c A E H locs ls hP hD hS hl
  obtain ⟨C, hr, hlocks, hA, hK, hN⟩ := id E
  obtain ⟨hx, hb, hml, hown, hts⟩ := id C
  unfold r_tellParty_78 at hB
  refine lv_aload_n hx hb dX11_tellParty_78 rfl (lv_at hl 0 rfl) ?_
  refine q_get (v := .ref (a 24)) C inX11_tellParty_X11 hK hP 0 rfl rfl 24 (by decide) rfl LX11_tellParty_52 rfl dX11_tellParty_79 ?_
  refine lv_iload_n hx hb dX11_tellParty_82 rfl (lv_at hl 1 rfl) ?_
  refine lv_aload_n hx hb dX11_tellParty_83 rfl (lv_at hl 0 rfl) ?_
  refine lv_bipush (v := 9) hx hb dX11_tellParty_84 (by decide) ?_
  obtain ⟨q_, s1, hc, hB⟩ := bindI_inv hB
  refine q_goiF (va_runV (As := [.int 9]) (rest := [.int x1, .ref (a 24)]) C (cr_bounded hc _) (cwV 1 hts gX11_tellParty_X11_bounded rfl rfl rfl (by decide +kernel) ⟨Nat.le_of_ble_eq_true rfl, Nat.le_of_ble_eq_true rfl⟩) (q_preV hK hP (ci := 11) (q0 := 0) rfl rfl rfl (q_preF hN hK hP hD)) rfl rfl hl.1 rfl (lv_room (Nat.le_of_ble_eq_true rfl)) dX11_tellParty_86 ⟨Nat.le_of_ble_eq_true rfl, Nat.le_of_ble_eq_true rfl⟩) hD hS hA (fun r2 w1 H locs hw hP hD hS => ?_)
  obtain ⟨hq_, hw⟩ := hw; subst hw; subst hq_
  obtain ⟨g3, hB⟩ := guard_inv hB
  obtain ⟨s4, hs5, hB⟩ := letS_inv hB
  refine q_iast (f2 := (upd (s1.f 24) (Int32.toNatClampNeg x1) r2)) (w2 := (mwS cB cI cJ cZ h a s4)) C hK hP hD hS 12 1 rfl rfl (vpb_in g3) dX11_tellParty_89 rfl (mwS_f24 hs5) (fun H locs hP hD hS => ?_)
  refine lv_aload_n hx hb dX11_tellParty_90 rfl (lv_at hl 0 rfl) ?_
  refine q_get (v := .ref (a 25)) C inX11_tellParty_X11 hK hP 0 rfl rfl 25 (by decide) rfl LX11_tellParty_55 rfl dX11_tellParty_91 ?_
  refine lv_iload_n hx hb dX11_tellParty_94 rfl (lv_at hl 1 rfl) ?_
  refine lv_aload_n hx hb dX11_tellParty_95 rfl (lv_at hl 0 rfl) ?_
  refine lv_bipush (v := 9) hx hb dX11_tellParty_96 (by decide) ?_
  obtain ⟨q_, s6, hc, hB⟩ := bindI_inv hB
  refine q_goiF (va_runV (As := [.int 9]) (rest := [.int x1, .ref (a 25)]) C (cr_bounded hc _) (cwV 1 hts gX11_tellParty_X11_bounded rfl rfl rfl (by decide +kernel) ⟨Nat.le_of_ble_eq_true rfl, Nat.le_of_ble_eq_true rfl⟩) (q_preV hK hP (ci := 11) (q0 := 0) rfl rfl rfl (q_preF hN hK hP hD)) rfl rfl hl.1 rfl (lv_room (Nat.le_of_ble_eq_true rfl)) dX11_tellParty_98 ⟨Nat.le_of_ble_eq_true rfl, Nat.le_of_ble_eq_true rfl⟩) hD hS hA (fun r7 w1 H locs hw hP hD hS => ?_)
  obtain ⟨hq_, hw⟩ := hw; subst hw; subst hq_
  obtain ⟨g8, hB⟩ := guard_inv hB
  obtain ⟨s9, hs10, hB⟩ := letS_inv hB
  refine q_iast (f2 := (upd (s6.f 25) (Int32.toNatClampNeg x1) r7)) (w2 := (mwS cB cI cJ cZ h a s9)) C hK hP hD hS 13 1 rfl rfl (vpb_in g8) dX11_tellParty_101 rfl (mwS_f25 hs10) (fun H locs hP hD hS => ?_)
  refine lv_aload_n hx hb dX11_tellParty_102 rfl (lv_at hl 0 rfl) ?_
  refine lv_iconst (v := 4) hx hb dX11_tellParty_103 (by decide) ?_
  obtain ⟨s11, hc, hB⟩ := bindP_inv hB
  refine q_govF (va_runV (As := [.int 4]) (rest := []) C (cr_must hc _) (cwV 1 hts gX11_tellParty_X11_must rfl rfl rfl (by decide +kernel) ⟨Nat.le_of_ble_eq_true rfl, Nat.le_of_ble_eq_true rfl⟩) (q_preV hK hP (ci := 11) (q0 := 0) rfl rfl rfl (q_preF hN hK hP hD)) rfl rfl hl.1 rfl (lv_room (Nat.le_of_ble_eq_true rfl)) dX11_tellParty_104 ⟨Nat.le_of_ble_eq_true rfl, Nat.le_of_ble_eq_true rfl⟩) hD hS hA (fun w1 H locs hw hP hD hS => ?_)
  subst hw
  refine lv_aload_n hx hb dX11_tellParty_107 rfl (lv_at hl 0 rfl) ?_
  refine q_get (v := .int (s11.v 13)) C inX11_tellParty_X11 hK hP 0 rfl rfl 13 (by decide) rfl LX11_tellParty_185 rfl dX11_tellParty_108 ?_
  refine lv_if_le (tgt := 115) hx hb dX11_tellParty_111 (by decide) (fun c12 => ?_) (fun c12 => ?_)
  · have hB := if_p hB c12
    refine lv_aload_n hx hb dX11_tellParty_115 rfl (lv_at hl 0 rfl) ?_
    refine q_get (v := .ref (a 22)) C inX11_tellParty_X11 hK hP 0 rfl rfl 22 (by decide) rfl LX11_tellParty_46 rfl dX11_tellParty_116 ?_
    refine lv_aload_n hx hb dX11_tellParty_119 rfl (lv_at hl 0 rfl) ?_
    refine q_get (v := .ref (a 23)) C inX11_tellParty_X11 hK hP 0 rfl rfl 23 (by decide) rfl LX11_tellParty_49 rfl dX11_tellParty_120 ?_
    refine lv_aload_n hx hb dX11_tellParty_123 rfl (lv_at hl 0 rfl) ?_
    refine q_get (v := .int (s11.v 19)) C inX11_tellParty_X11 hK hP 0 rfl rfl 19 (by decide) rfl LX11_tellParty_218 rfl dX11_tellParty_124 ?_
    obtain ⟨g13, hB⟩ := guard_inv hB
    refine q_iald (x := (s11.f 23 (Int32.toNatClampNeg (s11.v 19)))) C hK hP 11 1 rfl rfl (vpb_in g13) dX11_tellParty_127 rfl ?_
    refine lv_aload_n hx hb dX11_tellParty_128 rfl (lv_at hl 0 rfl) ?_
    refine q_get (v := .ref (a 8)) C inX11_tellParty_X11 hK hP 0 rfl rfl 8 (by decide) rfl LX11_tellParty_30 rfl dX11_tellParty_129 ?_
    refine lv_iload_n hx hb dX11_tellParty_132 rfl (lv_at hl 2 rfl) ?_
    obtain ⟨g14, hB⟩ := guard_inv hB
    refine q_lald (x := (s11.g 8 (Int32.toNatClampNeg x2))) C hK hP 6 2 rfl rfl (vpb_in g14) dX11_tellParty_133 rfl ?_
    obtain ⟨g15, hB⟩ := guard_inv hB
    obtain ⟨s16, hs17, hB⟩ := letS_inv hB
    refine q_last (f2 := (vp_updL (s11.g 22) (Int32.toNatClampNeg (s11.f 23 (Int32.toNatClampNeg (s11.v 19)))) (s11.g 8 (Int32.toNatClampNeg x2)))) (w2 := (mwS cB cI cJ cZ h a s16)) C hK hP hD hS 10 2 rfl rfl (vpb_in g15) dX11_tellParty_134 rfl (mwS_f22 hs17) (fun H locs hP hD hS => ?_)
    refine lv_aload_n hx hb dX11_tellParty_135 rfl (lv_at hl 0 rfl) ?_
    refine q_get (v := .ref (a 23)) C inX11_tellParty_X11 hK hP 0 rfl rfl 23 (by decide) rfl LX11_tellParty_49 rfl dX11_tellParty_136 ?_
    refine lv_aload_n hx hb dX11_tellParty_139 rfl (lv_at hl 0 rfl) ?_
    refine q_get (v := .int (s16.v 19)) C inX11_tellParty_X11 hK hP 0 rfl rfl 19 (by decide) rfl LX11_tellParty_218 rfl dX11_tellParty_140 ?_
    refine lv_dup2_11 hx hb dX11_tellParty_143 rfl rfl ?_
    obtain ⟨g18, hB⟩ := guard_inv hB
    refine q_iald (x := (s16.f 23 (Int32.toNatClampNeg (s16.v 19)))) C hK hP 11 1 rfl rfl (vpb_in g18) dX11_tellParty_144 rfl ?_
    refine lv_iconst (v := 1) hx hb dX11_tellParty_145 (by decide) ?_
    refine lv_iadd hx hb dX11_tellParty_146 ?_
    obtain ⟨g19, hB⟩ := guard_inv hB
    obtain ⟨s20, hs21, hB⟩ := letS_inv hB
    refine q_iast (f2 := (upd (s16.f 23) (Int32.toNatClampNeg (s16.v 19)) ((s16.f 23 (Int32.toNatClampNeg (s16.v 19))) + 1))) (w2 := (mwS cB cI cJ cZ h a s20)) C hK hP hD hS 11 1 rfl rfl (vpb_in g19) dX11_tellParty_147 rfl (mwS_f23 hs21) (fun H locs hP hD hS => ?_)
    exact q_vret C hr hlocks hK hP hD hS (Nat.le_of_ble_eq_true rfl) (Nat.le_of_ble_eq_true rfl) dX11_tellParty_148 (by cases hB; rfl)
  · have hB := if_n hB c12
    exact q_vret C hr hlocks hK hP hD hS (Nat.le_of_ble_eq_true rfl) (Nat.le_of_ble_eq_true rfl) dX11_tellParty_114 (by cases hB; rfl)
set_option maxHeartbeats 4000000 in
set_option maxRecDepth 100000 in
theorem br_tellParty_72 {l : Launch} {dC : Nat → ClassId} {dI : Nat → Nat → Nat} {cB cI cJ cZ cS : ClassId} {h : Nat} {a : Nat → Nat} {as : List Value} {s' : RS} {k30 : RS → Int32 → Int32 → Int32 → Option RS} (hk30 : ∀ (s : RS) (x1 : Int32) (x2 : Int32) (x3 : Int32), k30 s x1 x2 x3 = some s' → BlkV l yX11_tellParty wsX11_tellParty ({ frames := 3, cells := 0, slots := 0, locals := 63 }) cX11_tellParty 4 none (dC, dI) (tysA cB cI cJ cZ cS) as 30 (mwS cB cI cJ cZ h a s) [(0, .ref h), (1, .int x1), (2, .int x2), (3, .int x3)] [] (fun u => u = (mwS cB cI cJ cZ h a s'))) (s : RS) (x1 : Int32) (x2 : Int32) (x3 : Int32) (hB : r_tellParty_72 k30 s x1 x2 x3 = some s') : BlkV l yX11_tellParty wsX11_tellParty ({ frames := 3, cells := 0, slots := 0, locals := 63 }) cX11_tellParty 4 none (dC, dI) (tysA cB cI cJ cZ cS) as 72 (mwS cB cI cJ cZ h a s) [(0, .ref h), (1, .int x1), (2, .int x2), (3, .int x3)] [] (fun u => u = (mwS cB cI cJ cZ h a s')) := by
  intro p e s0 m below meth c A E H locs ls hP hD hS hl
  obtain ⟨C, hr, hlocks, hA, hK, hN⟩ := id E
  obtain ⟨hx, hb, hml, hown, hts⟩ := id C
  unfold r_tellParty_72 at hB
  refine lv_iinc (v := (x3 + 1)) (lv' := [(3, .int (x3 + 1)), (0, .ref h), (1, .int x1), (2, .int x2)]) hx hb dX11_tellParty_72 hl (k := 3) rfl (rfl) (by decide) rfl (fun ls hl => ?_)
  refine lv_goto (tgt := 30) hx hb dX11_tellParty_75 (by decide) ?_
  exact hk30 _ _ _ _ hB p e s0 m below meth c A E H locs ls hP hD hS (lv_sub hl [1, 2, 3, 0] rfl)
set_option maxHeartbeats 4000000 in
set_option maxRecDepth 100000 in
theorem br_tellParty_30 {l : Launch} {dC : Nat → ClassId} {dI : Nat → Nat → Nat} {cB cI cJ cZ cS : ClassId} {h : Nat} {a : Nat → Nat} {as : List Value} {s' : RS} {k30 : RS → Int32 → Int32 → Int32 → Option RS} (hk30 : ∀ (s : RS) (x1 : Int32) (x2 : Int32) (x3 : Int32), k30 s x1 x2 x3 = some s' → BlkV l yX11_tellParty wsX11_tellParty ({ frames := 3, cells := 0, slots := 0, locals := 63 }) cX11_tellParty 4 none (dC, dI) (tysA cB cI cJ cZ cS) as 30 (mwS cB cI cJ cZ h a s) [(0, .ref h), (1, .int x1), (2, .int x2), (3, .int x3)] [] (fun u => u = (mwS cB cI cJ cZ h a s'))) (s : RS) (x1 : Int32) (x2 : Int32) (x3 : Int32) (hB : r_tellParty_30 k30 s x1 x2 x3 = some s') : BlkV l yX11_tellParty wsX11_tellParty ({ frames := 3, cells := 0, slots := 0, locals := 63 }) cX11_tellParty 4 none (dC, dI) (tysA cB cI cJ cZ cS) as 30 (mwS cB cI cJ cZ h a s) [(0, .ref h), (1, .int x1), (2, .int x2), (3, .int x3)] [] (fun u => u = (mwS cB cI cJ cZ h a s')) := by
  intro p e s0 m below meth c A E H locs ls hP hD hS hl
  obtain ⟨C, hr, hlocks, hA, hK, hN⟩ := id E
  obtain ⟨hx, hb, hml, hown, hts⟩ := id C
  unfold r_tellParty_30 at hB
  refine lv_iload_n hx hb dX11_tellParty_30 rfl (lv_at hl 3 rfl) ?_
  refine lv_aload_n hx hb dX11_tellParty_31 rfl (lv_at hl 0 rfl) ?_
  refine q_get (v := .ref (a 23)) C inX11_tellParty_X11 hK hP 0 rfl rfl 23 (by decide) rfl LX11_tellParty_49 rfl dX11_tellParty_32 ?_
  refine lv_aload_n hx hb dX11_tellParty_35 rfl (lv_at hl 0 rfl) ?_
  refine q_get (v := .int (s.v 19)) C inX11_tellParty_X11 hK hP 0 rfl rfl 19 (by decide) rfl LX11_tellParty_218 rfl dX11_tellParty_36 ?_
  obtain ⟨g1, hB⟩ := guard_inv hB
  refine q_iald (x := (s.f 23 (Int32.toNatClampNeg (s.v 19)))) C hK hP 11 1 rfl rfl (vpb_in g1) dX11_tellParty_39 rfl ?_
  refine lv_icmp_ge (tgt := 78) hx hb dX11_tellParty_40 (by decide) (fun c2 => ?_) (fun c2 => ?_)
  · have hB := if_p hB c2
    exact br_tellParty_78 _ _ _ hB p e s0 m below meth c A E H locs ls hP hD hS (lv_sub hl [0, 1, 2] rfl)
  · have hB := if_n hB c2
    refine lv_aload_n hx hb dX11_tellParty_43 rfl (lv_at hl 0 rfl) ?_
    refine q_get (v := .int (s.v 13)) C inX11_tellParty_X11 hK hP 0 rfl rfl 13 (by decide) rfl LX11_tellParty_185 rfl dX11_tellParty_44 ?_
    refine lv_if_ne (tgt := 78) hx hb dX11_tellParty_47 (by decide) (fun c3 => ?_) (fun c3 => ?_)
    · have hB := if_n hB c3
      exact br_tellParty_78 _ _ _ hB p e s0 m below meth c A E H locs ls hP hD hS (lv_sub hl [0, 1, 2] rfl)
    · have hB := if_p hB c3
      refine lv_aload_n hx hb dX11_tellParty_50 rfl (lv_at hl 0 rfl) ?_
      refine q_get (v := .ref (a 22)) C inX11_tellParty_X11 hK hP 0 rfl rfl 22 (by decide) rfl LX11_tellParty_46 rfl dX11_tellParty_51 ?_
      refine lv_iload_n hx hb dX11_tellParty_54 rfl (lv_at hl 3 rfl) ?_
      obtain ⟨g4, hB⟩ := guard_inv hB
      refine q_lald (x := (s.g 22 (Int32.toNatClampNeg x3))) C hK hP 10 2 rfl rfl (vpb_in g4) dX11_tellParty_55 rfl ?_
      refine lv_aload_n hx hb dX11_tellParty_56 rfl (lv_at hl 0 rfl) ?_
      refine q_get (v := .ref (a 8)) C inX11_tellParty_X11 hK hP 0 rfl rfl 8 (by decide) rfl LX11_tellParty_30 rfl dX11_tellParty_57 ?_
      refine lv_iload_n hx hb dX11_tellParty_60 rfl (lv_at hl 2 rfl) ?_
      obtain ⟨g5, hB⟩ := guard_inv hB
      refine q_lald (x := (s.g 8 (Int32.toNatClampNeg x2))) C hK hP 6 2 rfl rfl (vpb_in g5) dX11_tellParty_61 rfl ?_
      refine W.lcmp hx hb dX11_tellParty_62 ?_
      refine lv_if_ne (tgt := 72) hx hb dX11_tellParty_63 (by decide) (fun c6 => ?_) (fun c6 => ?_)
      · have hB := if_n hB c6
        exact br_tellParty_72 (hk30) _ _ _ _ hB p e s0 m below meth c A E H locs ls hP hD hS (lv_sub hl [0, 1, 2, 3] rfl)
      · have hB := if_p hB c6
        refine lv_aload_n hx hb dX11_tellParty_66 rfl (lv_at hl 0 rfl) ?_
        refine lv_iconst (v := 3) hx hb dX11_tellParty_67 (by decide) ?_
        refine lv_iload_n hx hb dX11_tellParty_68 rfl (lv_at hl 2 rfl) ?_
        obtain ⟨s7, hc, hB⟩ := bindP_inv hB
        refine q_govF (va_runV (As := [.int 3, .int x2]) (rest := []) C (cr_wrong hc _) (cwV 2 hts gX11_tellParty_X11_wrong rfl rfl rfl (by decide +kernel) ⟨Nat.le_of_ble_eq_true rfl, Nat.le_of_ble_eq_true rfl⟩) (q_preV hK hP (ci := 11) (q0 := 0) rfl rfl rfl (q_preF hN hK hP hD)) rfl rfl hl.1 rfl (lv_room (Nat.le_of_ble_eq_true rfl)) dX11_tellParty_69 ⟨Nat.le_of_ble_eq_true rfl, Nat.le_of_ble_eq_true rfl⟩) hD hS hA (fun w1 H locs hw hP hD hS => ?_)
        subst hw
        exact br_tellParty_72 (hk30) _ _ _ _ hB p e s0 m below meth c A E H locs ls hP hD hS (lv_sub hl [0, 1, 2, 3] rfl)
theorem br_tellParty_30L {l : Launch} {dC : Nat → ClassId} {dI : Nat → Nat → Nat} {cB cI cJ cZ cS : ClassId} {h : Nat} {a : Nat → Nat} {as : List Value} {s' : RS} : ∀ (n : Nat) (s : RS) (x1 : Int32) (x2 : Int32) (x3 : Int32), r_tellParty_30L n s x1 x2 x3 = some s' → BlkV l yX11_tellParty wsX11_tellParty ({ frames := 3, cells := 0, slots := 0, locals := 63 }) cX11_tellParty 4 none (dC, dI) (tysA cB cI cJ cZ cS) as 30 (mwS cB cI cJ cZ h a s) [(0, .ref h), (1, .int x1), (2, .int x2), (3, .int x3)] [] (fun u => u = (mwS cB cI cJ cZ h a s')) := by
  intro n
  induction n with
  | zero => intro s x1 x2 x3 hB; exact none_ne hB
  | succ n ih => intro s x1 x2 x3 hB; exact br_tellParty_30 ih _ _ _ _ hB
set_option maxHeartbeats 4000000 in
set_option maxRecDepth 100000 in
theorem br_tellParty {l : Launch} {dC : Nat → ClassId} {dI : Nat → Nat → Nat} {cB cI cJ cZ cS : ClassId} {h : Nat} {a : Nat → Nat} {as : List Value} {s' : RS} (s : RS) (hB : r_tellParty s = some s') : BlkV l yX11_tellParty wsX11_tellParty ({ frames := 3, cells := 0, slots := 0, locals := 63 }) cX11_tellParty 4 none (dC, dI) (tysA cB cI cJ cZ cS) as 0 (mwS cB cI cJ cZ h a s) [(0, .ref h)] [] (fun u => u = (mwS cB cI cJ cZ h a s')) := by
  intro p e s0 m below meth c A E H locs ls hP hD hS hl
  obtain ⟨C, hr, hlocks, hA, hK, hN⟩ := id E
  obtain ⟨hx, hb, hml, hown, hts⟩ := id C
  unfold r_tellParty at hB
  refine lv_bipush (v := 6) hx hb dX11_tellParty_0 (by decide) ?_
  refine lv_aload_n hx hb dX11_tellParty_2 rfl (lv_at hl 0 rfl) ?_
  refine q_get (v := .int (s.v 19)) C inX11_tellParty_X11 hK hP 0 rfl rfl 19 (by decide) rfl LX11_tellParty_218 rfl dX11_tellParty_3 ?_
  refine lv_imul hx hb dX11_tellParty_6 ?_
  refine lv_aload_n hx hb dX11_tellParty_7 rfl (lv_at hl 0 rfl) ?_
  refine q_get (v := .ref (a 23)) C inX11_tellParty_X11 hK hP 0 rfl rfl 23 (by decide) rfl LX11_tellParty_49 rfl dX11_tellParty_8 ?_
  refine lv_aload_n hx hb dX11_tellParty_11 rfl (lv_at hl 0 rfl) ?_
  refine q_get (v := .int (s.v 19)) C inX11_tellParty_X11 hK hP 0 rfl rfl 19 (by decide) rfl LX11_tellParty_218 rfl dX11_tellParty_12 ?_
  obtain ⟨g1, hB⟩ := guard_inv hB
  refine q_iald (x := (s.f 23 (Int32.toNatClampNeg (s.v 19)))) C hK hP 11 1 rfl rfl (vpb_in g1) dX11_tellParty_15 rfl ?_
  refine lv_iadd hx hb dX11_tellParty_16 ?_
  refine lv_istore_n (lv' := [(1, .int ((6 * (s.v 19)) + (s.f 23 (Int32.toNatClampNeg (s.v 19))))), (0, .ref h)]) hx hb dX11_tellParty_17 rfl hl (by decide) rfl (fun ls hl => ?_)
  refine lv_aload_n hx hb dX11_tellParty_18 rfl (lv_at hl 1 rfl) ?_
  refine q_get (v := .int (s.v 11)) C inX11_tellParty_X11 hK hP 0 rfl rfl 11 (by decide) rfl LX11_tellParty_188 rfl dX11_tellParty_19 ?_
  refine lv_istore_n (lv' := [(2, .int (s.v 11)), (1, .int ((6 * (s.v 19)) + (s.f 23 (Int32.toNatClampNeg (s.v 19))))), (0, .ref h)]) hx hb dX11_tellParty_22 rfl hl (by decide) rfl (fun ls hl => ?_)
  refine lv_aload_n hx hb dX11_tellParty_23 rfl (lv_at hl 2 rfl) ?_
  refine lv_iconst (v := 1) hx hb dX11_tellParty_24 (by decide) ?_
  obtain ⟨s2, hc, hB⟩ := bindP_inv hB
  refine q_govF (va_runV (As := [.int 1]) (rest := []) C (cr_must hc _) (cwV 1 hts gX11_tellParty_X11_must rfl rfl rfl (by decide +kernel) ⟨Nat.le_of_ble_eq_true rfl, Nat.le_of_ble_eq_true rfl⟩) (q_preV hK hP (ci := 11) (q0 := 0) rfl rfl rfl (q_preF hN hK hP hD)) rfl rfl hl.1 rfl (lv_room (Nat.le_of_ble_eq_true rfl)) dX11_tellParty_25 ⟨Nat.le_of_ble_eq_true rfl, Nat.le_of_ble_eq_true rfl⟩) hD hS hA (fun w1 H locs hw hP hD hS => ?_)
  subst hw
  refine lv_iconst (v := 0) hx hb dX11_tellParty_28 (by decide) ?_
  refine lv_istore_n (lv' := [(3, .int 0), (2, .int (s.v 11)), (1, .int ((6 * (s.v 19)) + (s.f 23 (Int32.toNatClampNeg (s.v 19))))), (0, .ref h)]) hx hb dX11_tellParty_29 rfl hl (by decide) rfl (fun ls hl => ?_)
  exact br_tellParty_30L fu _ _ _ _ hB p e s0 m below meth c A E H locs ls hP hD hS (lv_sub hl [3, 2, 1, 0] rfl)
theorem cr_tellParty {l : Launch} {dC : Nat → ClassId} {dI : Nat → Nat → Nat} {cB cI cJ cZ cS : ClassId} {h : Nat} {a : Nat → Nat} {s' : RS} {s : RS} (hB : r_tellParty s = some s') : CV l yX11_tellParty wsX11_tellParty ({ frames := 3, cells := 0, slots := 0, locals := 63 }) (dC, dI) (tysA cB cI cJ cZ cS) (mwS cB cI cJ cZ h a s) [.ref h] (fun u => u = (mwS cB cI cJ cZ h a s')) :=
  CV_of (cc := cX11_tellParty) (maxL := 4) (ret := none) (by decide) rfl (Nat.le_of_ble_eq_true rfl) (br_tellParty _ hB)
