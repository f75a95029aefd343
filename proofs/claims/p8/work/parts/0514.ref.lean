theorem ggX11_isAsked_X11_in : GoodIn wsX11_isAsked wsX11_in := gi_sub (fun w h => List.mem_cons_of_mem _ (List.mem_append_left _ (List.mem_append_right _ h))) gd_wsX11_in
set_option maxRecDepth 20000 in
theorem gX11_isAsked_X11_in : GoodIn wsX11_isAsked (va_wsS RX11 281 yX11_in wsX11_in) := goodIn_app (goodIn_of _ (by decide +kernel)) ggX11_isAsked_X11_in
theorem dX11_isAsked_0 : decode cX11_isAsked 0 = .ok (.iload_n 1, 1) := dc1_27 (by decide +kernel)
theorem dX11_isAsked_1 : decode cX11_isAsked 1 = .ok (.iconst 0, 1) := dc1_3 (by decide +kernel)
theorem dX11_isAsked_2 : decode cX11_isAsked 2 = .ok (.aload_n 0, 1) := dc1_42 (by decide +kernel)
theorem dX11_isAsked_3 : decode cX11_isAsked 3 = .ok (.getfield 233, 3) := dcw_180 (by decide +kernel)
theorem dX11_isAsked_6 : decode cX11_isAsked 6 = .ok (.invokestatic 281, 3) := dcw_184 (by decide +kernel)
theorem dX11_isAsked_9 : decode cX11_isAsked 9 = .ok (.ifCond .eq 16, 3) := dcs_153 (n := 16) (by decide +kernel)
theorem dX11_isAsked_12 : decode cX11_isAsked 12 = .ok (.iload_n 2, 1) := dc1_28 (by decide +kernel)
theorem dX11_isAsked_13 : decode cX11_isAsked 13 = .ok (.iconst 0, 1) := dc1_3 (by decide +kernel)
theorem dX11_isAsked_14 : decode cX11_isAsked 14 = .ok (.iconst 3, 1) := dc1_6 (by decide +kernel)
theorem dX11_isAsked_15 : decode cX11_isAsked 15 = .ok (.invokestatic 281, 3) := dcw_184 (by decide +kernel)
theorem dX11_isAsked_18 : decode cX11_isAsked 18 = .ok (.ifCond .eq 7, 3) := dcs_153 (n := 7) (by decide +kernel)
theorem dX11_isAsked_21 : decode cX11_isAsked 21 = .ok (.iconst 1, 1) := dc1_4 (by decide +kernel)
theorem dX11_isAsked_22 : decode cX11_isAsked 22 = .ok (.goto 4, 3) := dcs_167 (n := 4) (by decide +kernel)
theorem dX11_isAsked_25 : decode cX11_isAsked 25 = .ok (.iconst 0, 1) := dc1_3 (by decide +kernel)
theorem dX11_isAsked_26 : decode cX11_isAsked 26 = .ok (.ireturn, 1) := dc1_172 (by decide +kernel)
theorem ggX11_fit_X11_isAsked : GoodIn wsX11_fit wsX11_isAsked := gi_sub (fun w h => List.mem_cons_of_mem _ (List.mem_append_left _ (List.mem_append_right _ (List.mem_append_left _ h)))) gd_wsX11_isAsked
set_option maxRecDepth 20000 in
theorem gX11_fit_X11_isAsked : GoodIn wsX11_fit (wsV RX11 422 RX11 yX11_isAsked wsX11_isAsked) := goodIn_app (goodIn_r _ [2, 3, 4, 5] (by decide +kernel) (by decide +kernel)) ggX11_fit_X11_isAsked
theorem ggX11_fit_X11_in : GoodIn wsX11_fit wsX11_in := gi_sub (fun w h => List.mem_cons_of_mem _ (List.mem_append_left _ (List.mem_append_right _ (List.mem_append_right _ (List.mem_append_left _ h))))) gd_wsX11_in
set_option maxRecDepth 20000 in
theorem gX11_fit_X11_in : GoodIn wsX11_fit (va_wsS RX11 281 yX11_in wsX11_in) := goodIn_app (goodIn_of _ (by decide +kernel)) ggX11_fit_X11_in
theorem ggX11_fit_X11_fillsChances : GoodIn wsX11_fit wsX11_fillsChances := gi_sub (fun w h => List.mem_cons_of_mem _ (List.mem_append_left _ (List.mem_append_right _ (List.mem_append_right _ (List.mem_append_right _ (List.mem_append_left _ h)))))) gd_wsX11_fillsChances
set_option maxRecDepth 20000 in
theorem gX11_fit_X11_fillsChances : GoodIn wsX11_fit (wsV RX11 404 RX11 yX11_fillsChances wsX11_fillsChances) := goodIn_app (goodIn_r _ [8, 9, 10, 5] (by decide +kernel) (by decide +kernel)) ggX11_fit_X11_fillsChances
theorem ggX11_fit_X11_guesses : GoodIn wsX11_fit wsX11_guesses := gi_sub (fun w h => List.mem_cons_of_mem _ (List.mem_append_left _ (List.mem_append_right _ (List.mem_append_right _ (List.mem_append_right _ (List.mem_append_right _ (List.mem_append_left _ h))))))) gd_wsX11_guesses
set_option maxRecDepth 20000 in
theorem gX11_fit_X11_guesses : GoodIn wsX11_fit (wsV RX11 285 RX11 yX11_guesses wsX11_guesses) := goodIn_app (goodIn_r _ [11, 12, 13, 5] (by decide +kernel) (by decide +kernel)) ggX11_fit_X11_guesses
theorem ggX11_fit_X11_doesFit : GoodIn wsX11_fit wsX11_doesFit := gi_sub (fun w h => List.mem_cons_of_mem _ (List.mem_append_left _ (List.mem_append_right _ (List.mem_append_right _ (List.mem_append_right _ (List.mem_append_right _ (List.mem_append_right _ h))))))) gd_wsX11_doesFit
set_option maxRecDepth 20000 in
theorem gX11_fit_X11_doesFit : GoodIn wsX11_fit (wsV RX11 425 RX11 yX11_doesFit wsX11_doesFit) := goodIn_app (goodIn_r _ [14, 15, 16, 5] (by decide +kernel) (by decide +kernel)) ggX11_fit_X11_doesFit
theorem dX11_fit_0 : decode cX11_fit 0 = .ok (.aload_n 0, 1) := dc1_42 (by decide +kernel)
theorem dX11_fit_1 : decode cX11_fit 1 = .ok (.iload_n 1, 1) := dc1_27 (by decide +kernel)
theorem dX11_fit_2 : decode cX11_fit 2 = .ok (.iload_n 2, 1) := dc1_28 (by decide +kernel)
theorem dX11_fit_3 : decode cX11_fit 3 = .ok (.invokevirtual 422, 3) := dcw_182 (by decide +kernel)
theorem dX11_fit_6 : decode cX11_fit 6 = .ok (.ifCond .eq 12, 3) := dcs_153 (n := 12) (by decide +kernel)
theorem dX11_fit_9 : decode cX11_fit 9 = .ok (.iload_n 3, 1) := dc1_29 (by decide +kernel)
theorem dX11_fit_10 : decode cX11_fit 10 = .ok (.iconst 0, 1) := dc1_3 (by decide +kernel)
theorem dX11_fit_11 : decode cX11_fit 11 = .ok (.iconst 1, 1) := dc1_4 (by decide +kernel)
theorem dX11_fit_12 : decode cX11_fit 12 = .ok (.invokestatic 281, 3) := dcw_184 (by decide +kernel)
theorem dX11_fit_15 : decode cX11_fit 15 = .ok (.ifCond .ne 5, 3) := dcs_154 (n := 5) (by decide +kernel)
theorem dX11_fit_18 : decode cX11_fit 18 = .ok (.iconst (-1), 1) := dc1_2 (by decide +kernel)
theorem dX11_fit_19 : decode cX11_fit 19 = .ok (.ireturn, 1) := dc1_172 (by decide +kernel)
theorem dX11_fit_20 : decode cX11_fit 20 = .ok (.aload_n 0, 1) := dc1_42 (by decide +kernel)
theorem dX11_fit_21 : decode cX11_fit 21 = .ok (.invokevirtual 404, 3) := dcw_182 (by decide +kernel)
theorem dX11_fit_24 : decode cX11_fit 24 = .ok (.iconst 0, 1) := dc1_3 (by decide +kernel)
theorem dX11_fit_25 : decode cX11_fit 25 = .ok (.istore 4, 2) := dcu_54 (by decide +kernel)
theorem dX11_fit_27 : decode cX11_fit 27 = .ok (.iconst 0, 1) := dc1_3 (by decide +kernel)
theorem dX11_fit_28 : decode cX11_fit 28 = .ok (.istore 5, 2) := dcu_54 (by decide +kernel)
theorem dX11_fit_30 : decode cX11_fit 30 = .ok (.iload 5, 2) := dcu_21 (by decide +kernel)
theorem dX11_fit_32 : decode cX11_fit 32 = .ok (.aload_n 0, 1) := dc1_42 (by decide +kernel)
theorem dX11_fit_33 : decode cX11_fit 33 = .ok (.invokevirtual 285, 3) := dcw_182 (by decide +kernel)
theorem dX11_fit_36 : decode cX11_fit 36 = .ok (.if_icmp .ge 40, 3) := dcs_162 (n := 40) (by decide +kernel)
theorem dX11_fit_39 : decode cX11_fit 39 = .ok (.aload_n 0, 1) := dc1_42 (by decide +kernel)
theorem dX11_fit_40 : decode cX11_fit 40 = .ok (.iload 5, 2) := dcu_21 (by decide +kernel)
theorem dX11_fit_42 : decode cX11_fit 42 = .ok (.iload_n 1, 1) := dc1_27 (by decide +kernel)
theorem dX11_fit_43 : decode cX11_fit 43 = .ok (.iload_n 2, 1) := dc1_28 (by decide +kernel)
theorem dX11_fit_44 : decode cX11_fit 44 = .ok (.invokevirtual 425, 3) := dcw_182 (by decide +kernel)
theorem dX11_fit_47 : decode cX11_fit 47 = .ok (.ifCond .eq 23, 3) := dcs_153 (n := 23) (by decide +kernel)
theorem dX11_fit_50 : decode cX11_fit 50 = .ok (.iload 4, 2) := dcu_21 (by decide +kernel)
theorem dX11_fit_52 : decode cX11_fit 52 = .ok (.iload_n 3, 1) := dc1_29 (by decide +kernel)
theorem dX11_fit_53 : decode cX11_fit 53 = .ok (.ifCond .ne 7, 3) := dcs_154 (n := 7) (by decide +kernel)
theorem dX11_fit_56 : decode cX11_fit 56 = .ok (.iconst 1, 1) := dc1_4 (by decide +kernel)
theorem dX11_fit_57 : decode cX11_fit 57 = .ok (.goto 10, 3) := dcs_167 (n := 10) (by decide +kernel)
theorem dX11_fit_60 : decode cX11_fit 60 = .ok (.aload_n 0, 1) := dc1_42 (by decide +kernel)
theorem dX11_fit_61 : decode cX11_fit 61 = .ok (.getfield 113, 3) := dcw_180 (by decide +kernel)
theorem dX11_fit_64 : decode cX11_fit 64 = .ok (.iload 5, 2) := dcu_21 (by decide +kernel)
theorem dX11_fit_66 : decode cX11_fit 66 = .ok (.iaload, 1) := dc1_46 (by decide +kernel)
theorem dX11_fit_67 : decode cX11_fit 67 = .ok (.iadd, 1) := dc1_96 (by decide +kernel)
theorem dX11_fit_68 : decode cX11_fit 68 = .ok (.istore 4, 2) := dcu_54 (by decide +kernel)
theorem dX11_fit_70 : decode cX11_fit 70 = .ok (.iinc 5 1, 3) := dc_iinc (m := 1) (by decide +kernel)
theorem dX11_fit_73 : decode cX11_fit 73 = .ok (.goto (-43), 3) := dcs_167 (n := 65493) (by decide +kernel)
theorem dX11_fit_76 : decode cX11_fit 76 = .ok (.iload 4, 2) := dcu_21 (by decide +kernel)
theorem dX11_fit_78 : decode cX11_fit 78 = .ok (.ireturn, 1) := dc1_172 (by decide +kernel)
theorem ggX11_lie_X11_isAsked : GoodIn wsX11_lie wsX11_isAsked := gi_sub (fun w h => List.mem_cons_of_mem _ (List.mem_append_left _ (List.mem_append_right _ (List.mem_append_left _ h)))) gd_wsX11_isAsked
set_option maxRecDepth 20000 in
theorem gX11_lie_X11_isAsked : GoodIn wsX11_lie (wsV RX11 422 RX11 yX11_isAsked wsX11_isAsked) := goodIn_app (goodIn_r _ [1, 2, 3, 4] (by decide +kernel) (by decide +kernel)) ggX11_lie_X11_isAsked
theorem ggX11_lie_X11_fillsChances : GoodIn wsX11_lie wsX11_fillsChances := gi_sub (fun w h => List.mem_cons_of_mem _ (List.mem_append_left _ (List.mem_append_right _ (List.mem_append_right _ (List.mem_append_left _ h))))) gd_wsX11_fillsChances
set_option maxRecDepth 20000 in
theorem gX11_lie_X11_fillsChances : GoodIn wsX11_lie (wsV RX11 404 RX11 yX11_fillsChances wsX11_fillsChances) := goodIn_app (goodIn_r _ [5, 6, 7, 4] (by decide +kernel) (by decide +kernel)) ggX11_lie_X11_fillsChances
theorem ggX11_lie_X11_guesses : GoodIn wsX11_lie wsX11_guesses := gi_sub (fun w h => List.mem_cons_of_mem _ (List.mem_append_left _ (List.mem_append_right _ (List.mem_append_right _ (List.mem_append_right _ (List.mem_append_left _ h)))))) gd_wsX11_guesses
set_option maxRecDepth 20000 in
theorem gX11_lie_X11_guesses : GoodIn wsX11_lie (wsV RX11 285 RX11 yX11_guesses wsX11_guesses) := goodIn_app (goodIn_r _ [8, 9, 10, 4] (by decide +kernel) (by decide +kernel)) ggX11_lie_X11_guesses
theorem ggX11_lie_X11_doesFit : GoodIn wsX11_lie wsX11_doesFit := gi_sub (fun w h => List.mem_cons_of_mem _ (List.mem_append_left _ (List.mem_append_right _ (List.mem_append_right _ (List.mem_append_right _ (List.mem_append_right _ (List.mem_append_left _ h))))))) gd_wsX11_doesFit
set_option maxRecDepth 20000 in
theorem gX11_lie_X11_doesFit : GoodIn wsX11_lie (wsV RX11 425 RX11 yX11_doesFit wsX11_doesFit) := goodIn_app (goodIn_r _ [11, 12, 13, 4] (by decide +kernel) (by decide +kernel)) ggX11_lie_X11_doesFit
theorem ggX11_lie_X11_isSo : GoodIn wsX11_lie wsX11_isSo := gi_sub (fun w h => List.mem_cons_of_mem _ (List.mem_append_left _ (List.mem_append_right _ (List.mem_append_right _ (List.mem_append_right _ (List.mem_append_right _ (List.mem_append_right _ h))))))) gd_wsX11_isSo
set_option maxRecDepth 20000 in
theorem gX11_lie_X11_isSo : GoodIn wsX11_lie (wsV RX11 419 RX11 yX11_isSo wsX11_isSo) := goodIn_app (goodIn_r _ [14, 15, 16, 4] (by decide +kernel) (by decide +kernel)) ggX11_lie_X11_isSo
theorem dX11_lie_0 : decode cX11_lie 0 = .ok (.aload_n 0, 1) := dc1_42 (by decide +kernel)
theorem dX11_lie_1 : decode cX11_lie 1 = .ok (.iload_n 1, 1) := dc1_27 (by decide +kernel)
theorem dX11_lie_2 : decode cX11_lie 2 = .ok (.iload_n 2, 1) := dc1_28 (by decide +kernel)
theorem dX11_lie_3 : decode cX11_lie 3 = .ok (.invokevirtual 422, 3) := dcw_182 (by decide +kernel)
theorem dX11_lie_6 : decode cX11_lie 6 = .ok (.ifCond .ne 5, 3) := dcs_154 (n := 5) (by decide +kernel)
theorem dX11_lie_9 : decode cX11_lie 9 = .ok (.iconst (-1), 1) := dc1_2 (by decide +kernel)
theorem dX11_lie_10 : decode cX11_lie 10 = .ok (.ireturn, 1) := dc1_172 (by decide +kernel)
theorem dX11_lie_11 : decode cX11_lie 11 = .ok (.aload_n 0, 1) := dc1_42 (by decide +kernel)
theorem dX11_lie_12 : decode cX11_lie 12 = .ok (.invokevirtual 404, 3) := dcw_182 (by decide +kernel)
theorem dX11_lie_15 : decode cX11_lie 15 = .ok (.iconst 1, 1) := dc1_4 (by decide +kernel)
theorem dX11_lie_16 : decode cX11_lie 16 = .ok (.iload_n 1, 1) := dc1_27 (by decide +kernel)
theorem dX11_lie_17 : decode cX11_lie 17 = .ok (.ishl, 1) := dc1_120 (by decide +kernel)
theorem dX11_lie_18 : decode cX11_lie 18 = .ok (.iconst 1, 1) := dc1_4 (by decide +kernel)
theorem dX11_lie_19 : decode cX11_lie 19 = .ok (.isub, 1) := dc1_100 (by decide +kernel)
theorem dX11_lie_20 : decode cX11_lie 20 = .ok (.istore_n 3, 1) := dc1_62 (by decide +kernel)
theorem dX11_lie_21 : decode cX11_lie 21 = .ok (.iconst 0, 1) := dc1_3 (by decide +kernel)
theorem dX11_lie_22 : decode cX11_lie 22 = .ok (.istore 4, 2) := dcu_54 (by decide +kernel)
theorem dX11_lie_24 : decode cX11_lie 24 = .ok (.iload 4, 2) := dcu_21 (by decide +kernel)
theorem dX11_lie_26 : decode cX11_lie 26 = .ok (.aload_n 0, 1) := dc1_42 (by decide +kernel)
theorem dX11_lie_27 : decode cX11_lie 27 = .ok (.invokevirtual 285, 3) := dcw_182 (by decide +kernel)
theorem dX11_lie_30 : decode cX11_lie 30 = .ok (.if_icmp .ge 58, 3) := dcs_162 (n := 58) (by decide +kernel)
theorem dX11_lie_33 : decode cX11_lie 33 = .ok (.aload_n 0, 1) := dc1_42 (by decide +kernel)
theorem dX11_lie_34 : decode cX11_lie 34 = .ok (.iload 4, 2) := dcu_21 (by decide +kernel)
theorem dX11_lie_36 : decode cX11_lie 36 = .ok (.iload_n 1, 1) := dc1_27 (by decide +kernel)
theorem dX11_lie_37 : decode cX11_lie 37 = .ok (.iload_n 2, 1) := dc1_28 (by decide +kernel)
theorem dX11_lie_38 : decode cX11_lie 38 = .ok (.invokevirtual 425, 3) := dcw_182 (by decide +kernel)
theorem dX11_lie_41 : decode cX11_lie 41 = .ok (.ifCond .ne 6, 3) := dcs_154 (n := 6) (by decide +kernel)
theorem dX11_lie_44 : decode cX11_lie 44 = .ok (.goto 38, 3) := dcs_167 (n := 38) (by decide +kernel)
theorem dX11_lie_47 : decode cX11_lie 47 = .ok (.iconst 0, 1) := dc1_3 (by decide +kernel)
theorem dX11_lie_48 : decode cX11_lie 48 = .ok (.istore 5, 2) := dcu_54 (by decide +kernel)
theorem dX11_lie_50 : decode cX11_lie 50 = .ok (.iload 5, 2) := dcu_21 (by decide +kernel)
theorem dX11_lie_52 : decode cX11_lie 52 = .ok (.iload_n 1, 1) := dc1_27 (by decide +kernel)
theorem dX11_lie_53 : decode cX11_lie 53 = .ok (.if_icmp .ge 29, 3) := dcs_162 (n := 29) (by decide +kernel)
theorem dX11_lie_56 : decode cX11_lie 56 = .ok (.aload_n 0, 1) := dc1_42 (by decide +kernel)
theorem dX11_lie_57 : decode cX11_lie 57 = .ok (.iload 4, 2) := dcu_21 (by decide +kernel)
theorem dX11_lie_59 : decode cX11_lie 59 = .ok (.iload 5, 2) := dcu_21 (by decide +kernel)
theorem dX11_lie_61 : decode cX11_lie 61 = .ok (.invokevirtual 419, 3) := dcw_182 (by decide +kernel)
theorem dX11_lie_64 : decode cX11_lie 64 = .ok (.ifCond .eq 12, 3) := dcs_153 (n := 12) (by decide +kernel)
theorem dX11_lie_67 : decode cX11_lie 67 = .ok (.iload_n 3, 1) := dc1_29 (by decide +kernel)
theorem dX11_lie_68 : decode cX11_lie 68 = .ok (.iconst 1, 1) := dc1_4 (by decide +kernel)
theorem dX11_lie_69 : decode cX11_lie 69 = .ok (.iload 5, 2) := dcu_21 (by decide +kernel)
theorem dX11_lie_71 : decode cX11_lie 71 = .ok (.ishl, 1) := dc1_120 (by decide +kernel)
theorem dX11_lie_72 : decode cX11_lie 72 = .ok (.iconst (-1), 1) := dc1_2 (by decide +kernel)
theorem dX11_lie_73 : decode cX11_lie 73 = .ok (.ixor, 1) := dc1_130 (by decide +kernel)
theorem dX11_lie_74 : decode cX11_lie 74 = .ok (.iand, 1) := dc1_126 (by decide +kernel)
theorem dX11_lie_75 : decode cX11_lie 75 = .ok (.istore_n 3, 1) := dc1_62 (by decide +kernel)
theorem dX11_lie_76 : decode cX11_lie 76 = .ok (.iinc 5 1, 3) := dc_iinc (m := 1) (by decide +kernel)
theorem dX11_lie_79 : decode cX11_lie 79 = .ok (.goto (-29), 3) := dcs_167 (n := 65507) (by decide +kernel)
theorem dX11_lie_82 : decode cX11_lie 82 = .ok (.iinc 4 1, 3) := dc_iinc (m := 1) (by decide +kernel)
theorem dX11_lie_85 : decode cX11_lie 85 = .ok (.goto (-61), 3) := dcs_167 (n := 65475) (by decide +kernel)
theorem dX11_lie_88 : decode cX11_lie 88 = .ok (.iload_n 3, 1) := dc1_29 (by decide +kernel)
theorem dX11_lie_89 : decode cX11_lie 89 = .ok (.ireturn, 1) := dc1_172 (by decide +kernel)
theorem dX11_worstAt_0 : decode cX11_worstAt 0 = .ok (.iconst 0, 1) := dc1_3 (by decide +kernel)
theorem dX11_worstAt_1 : decode cX11_worstAt 1 = .ok (.istore_n 2, 1) := dc1_61 (by decide +kernel)
theorem dX11_worstAt_2 : decode cX11_worstAt 2 = .ok (.iconst 0, 1) := dc1_3 (by decide +kernel)
theorem dX11_worstAt_3 : decode cX11_worstAt 3 = .ok (.istore_n 3, 1) := dc1_62 (by decide +kernel)
theorem dX11_worstAt_4 : decode cX11_worstAt 4 = .ok (.iload_n 3, 1) := dc1_29 (by decide +kernel)
theorem dX11_worstAt_5 : decode cX11_worstAt 5 = .ok (.bipush 6, 2) := dcb_16 (n := 6) (by decide +kernel)
theorem dX11_worstAt_7 : decode cX11_worstAt 7 = .ok (.if_icmp .ge 36, 3) := dcs_162 (n := 36) (by decide +kernel)
theorem dX11_worstAt_10 : decode cX11_worstAt 10 = .ok (.aload_n 0, 1) := dc1_42 (by decide +kernel)
theorem dX11_worstAt_11 : decode cX11_worstAt 11 = .ok (.getfield 125, 3) := dcw_180 (by decide +kernel)
theorem dX11_worstAt_14 : decode cX11_worstAt 14 = .ok (.bipush 6, 2) := dcb_16 (n := 6) (by decide +kernel)
theorem dX11_worstAt_16 : decode cX11_worstAt 16 = .ok (.iload_n 1, 1) := dc1_27 (by decide +kernel)
theorem dX11_worstAt_17 : decode cX11_worstAt 17 = .ok (.imul, 1) := dc1_104 (by decide +kernel)
theorem dX11_worstAt_18 : decode cX11_worstAt 18 = .ok (.iload_n 3, 1) := dc1_29 (by decide +kernel)
theorem dX11_worstAt_19 : decode cX11_worstAt 19 = .ok (.iadd, 1) := dc1_96 (by decide +kernel)
theorem dX11_worstAt_20 : decode cX11_worstAt 20 = .ok (.iaload, 1) := dc1_46 (by decide +kernel)
theorem dX11_worstAt_21 : decode cX11_worstAt 21 = .ok (.iload_n 2, 1) := dc1_28 (by decide +kernel)
theorem dX11_worstAt_22 : decode cX11_worstAt 22 = .ok (.if_icmp .le 15, 3) := dcs_164 (n := 15) (by decide +kernel)
theorem dX11_worstAt_25 : decode cX11_worstAt 25 = .ok (.aload_n 0, 1) := dc1_42 (by decide +kernel)
theorem dX11_worstAt_26 : decode cX11_worstAt 26 = .ok (.getfield 125, 3) := dcw_180 (by decide +kernel)
theorem dX11_worstAt_29 : decode cX11_worstAt 29 = .ok (.bipush 6, 2) := dcb_16 (n := 6) (by decide +kernel)
theorem dX11_worstAt_31 : decode cX11_worstAt 31 = .ok (.iload_n 1, 1) := dc1_27 (by decide +kernel)
theorem dX11_worstAt_32 : decode cX11_worstAt 32 = .ok (.imul, 1) := dc1_104 (by decide +kernel)
theorem dX11_worstAt_33 : decode cX11_worstAt 33 = .ok (.iload_n 3, 1) := dc1_29 (by decide +kernel)
theorem dX11_worstAt_34 : decode cX11_worstAt 34 = .ok (.iadd, 1) := dc1_96 (by decide +kernel)
theorem dX11_worstAt_35 : decode cX11_worstAt 35 = .ok (.iaload, 1) := dc1_46 (by decide +kernel)
theorem dX11_worstAt_36 : decode cX11_worstAt 36 = .ok (.istore_n 2, 1) := dc1_61 (by decide +kernel)
theorem dX11_worstAt_37 : decode cX11_worstAt 37 = .ok (.iinc 3 1, 3) := dc_iinc (m := 1) (by decide +kernel)
theorem dX11_worstAt_40 : decode cX11_worstAt 40 = .ok (.goto (-36), 3) := dcs_167 (n := 65500) (by decide +kernel)
theorem dX11_worstAt_43 : decode cX11_worstAt 43 = .ok (.iload_n 2, 1) := dc1_28 (by decide +kernel)
theorem dX11_worstAt_44 : decode cX11_worstAt 44 = .ok (.ireturn, 1) := dc1_172 (by decide +kernel)
theorem ggX11_ask_X11_isAsked : GoodIn wsX11_ask wsX11_isAsked := gi_sub (fun w h => List.mem_cons_of_mem _ (List.mem_append_left _ (List.mem_append_right _ (List.mem_append_left _ h)))) gd_wsX11_isAsked
set_option maxRecDepth 20000 in
theorem gX11_ask_X11_isAsked : GoodIn wsX11_ask (wsV RX11 422 RX11 yX11_isAsked wsX11_isAsked) := goodIn_app (goodIn_r _ [4, 5, 6, 7] (by decide +kernel) (by decide +kernel)) ggX11_ask_X11_isAsked
theorem ggX11_ask_X11_fillsChances : GoodIn wsX11_ask wsX11_fillsChances := gi_sub (fun w h => List.mem_cons_of_mem _ (List.mem_append_left _ (List.mem_append_right _ (List.mem_append_right _ (List.mem_append_left _ h))))) gd_wsX11_fillsChances
set_option maxRecDepth 20000 in
theorem gX11_ask_X11_fillsChances : GoodIn wsX11_ask (wsV RX11 404 RX11 yX11_fillsChances wsX11_fillsChances) := goodIn_app (goodIn_r _ [8, 9, 10, 7] (by decide +kernel) (by decide +kernel)) ggX11_ask_X11_fillsChances
theorem ggX11_ask_X11_guesses : GoodIn wsX11_ask wsX11_guesses := gi_sub (fun w h => List.mem_cons_of_mem _ (List.mem_append_left _ (List.mem_append_right _ (List.mem_append_right _ (List.mem_append_right _ (List.mem_append_left _ h)))))) gd_wsX11_guesses
set_option maxRecDepth 20000 in
theorem gX11_ask_X11_guesses : GoodIn wsX11_ask (wsV RX11 285 RX11 yX11_guesses wsX11_guesses) := goodIn_app (goodIn_r _ [11, 12, 13, 7] (by decide +kernel) (by decide +kernel)) ggX11_ask_X11_guesses
theorem ggX11_ask_X11_doesFit : GoodIn wsX11_ask wsX11_doesFit := gi_sub (fun w h => List.mem_cons_of_mem _ (List.mem_append_left _ (List.mem_append_right _ (List.mem_append_right _ (List.mem_append_right _ (List.mem_append_right _ (List.mem_append_left _ h))))))) gd_wsX11_doesFit
set_option maxRecDepth 20000 in
theorem gX11_ask_X11_doesFit : GoodIn wsX11_ask (wsV RX11 425 RX11 yX11_doesFit wsX11_doesFit) := goodIn_app (goodIn_r _ [17, 18, 19, 7] (by decide +kernel) (by decide +kernel)) ggX11_ask_X11_doesFit
theorem ggX11_ask_X11_thingAt : GoodIn wsX11_ask wsX11_thingAt := gi_sub (fun w h => List.mem_cons_of_mem _ (List.mem_append_left _ (List.mem_append_right _ (List.mem_append_right _ (List.mem_append_right _ (List.mem_append_right _ (List.mem_append_right _ (List.mem_append_left _ h)))))))) gd_wsX11_thingAt
set_option maxRecDepth 20000 in
theorem gX11_ask_X11_thingAt : GoodIn wsX11_ask (wsV RX11 330 RX11 yX11_thingAt wsX11_thingAt) := goodIn_app (goodIn_r _ [14, 15, 16, 7] (by decide +kernel) (by decide +kernel)) ggX11_ask_X11_thingAt
theorem ggX11_ask_X11_worstAt : GoodIn wsX11_ask wsX11_worstAt := gi_sub (fun w h => List.mem_cons_of_mem _ (List.mem_append_left _ (List.mem_append_right _ (List.mem_append_right _ (List.mem_append_right _ (List.mem_append_right _ (List.mem_append_right _ (List.mem_append_right _ h)))))))) gd_wsX11_worstAt
set_option maxRecDepth 20000 in
theorem gX11_ask_X11_worstAt : GoodIn wsX11_ask (wsV RX11 428 RX11 yX11_worstAt wsX11_worstAt) := goodIn_app (goodIn_r _ [20, 21, 22, 7] (by decide +kernel) (by decide +kernel)) ggX11_ask_X11_worstAt
theorem dX11_ask_0 : decode cX11_ask 0 = .ok (.aload_n 0, 1) := dc1_42 (by decide +kernel)
theorem dX11_ask_1 : decode cX11_ask 1 = .ok (.iload_n 1, 1) := dc1_27 (by decide +kernel)
theorem dX11_ask_2 : decode cX11_ask 2 = .ok (.iload_n 2, 1) := dc1_28 (by decide +kernel)
theorem dX11_ask_3 : decode cX11_ask 3 = .ok (.invokevirtual 422, 3) := dcw_182 (by decide +kernel)
theorem dX11_ask_6 : decode cX11_ask 6 = .ok (.ifCond .ne 5, 3) := dcs_154 (n := 5) (by decide +kernel)
theorem dX11_ask_9 : decode cX11_ask 9 = .ok (.iconst (-1), 1) := dc1_2 (by decide +kernel)
theorem dX11_ask_10 : decode cX11_ask 10 = .ok (.ireturn, 1) := dc1_172 (by decide +kernel)
theorem dX11_ask_11 : decode cX11_ask 11 = .ok (.aload_n 0, 1) := dc1_42 (by decide +kernel)
theorem dX11_ask_12 : decode cX11_ask 12 = .ok (.invokevirtual 404, 3) := dcw_182 (by decide +kernel)
theorem dX11_ask_15 : decode cX11_ask 15 = .ok (.iconst 0, 1) := dc1_3 (by decide +kernel)
theorem dX11_ask_16 : decode cX11_ask 16 = .ok (.istore_n 3, 1) := dc1_62 (by decide +kernel)
theorem dX11_ask_17 : decode cX11_ask 17 = .ok (.iload_n 3, 1) := dc1_29 (by decide +kernel)
theorem dX11_ask_18 : decode cX11_ask 18 = .ok (.bipush 30, 2) := dcb_16 (n := 30) (by decide +kernel)
theorem dX11_ask_20 : decode cX11_ask 20 = .ok (.if_icmp .ge 16, 3) := dcs_162 (n := 16) (by decide +kernel)
theorem dX11_ask_23 : decode cX11_ask 23 = .ok (.aload_n 0, 1) := dc1_42 (by decide +kernel)
theorem dX11_ask_24 : decode cX11_ask 24 = .ok (.getfield 125, 3) := dcw_180 (by decide +kernel)
theorem dX11_ask_27 : decode cX11_ask 27 = .ok (.iload_n 3, 1) := dc1_29 (by decide +kernel)
theorem dX11_ask_28 : decode cX11_ask 28 = .ok (.iconst 0, 1) := dc1_3 (by decide +kernel)
theorem dX11_ask_29 : decode cX11_ask 29 = .ok (.iastore, 1) := dc1_79 (by decide +kernel)
theorem dX11_ask_30 : decode cX11_ask 30 = .ok (.iinc 3 1, 3) := dc_iinc (m := 1) (by decide +kernel)
theorem dX11_ask_33 : decode cX11_ask 33 = .ok (.goto (-16), 3) := dcs_167 (n := 65520) (by decide +kernel)
theorem dX11_ask_36 : decode cX11_ask 36 = .ok (.iconst 0, 1) := dc1_3 (by decide +kernel)
theorem dX11_ask_37 : decode cX11_ask 37 = .ok (.istore_n 3, 1) := dc1_62 (by decide +kernel)
theorem dX11_ask_38 : decode cX11_ask 38 = .ok (.iconst 0, 1) := dc1_3 (by decide +kernel)
theorem dX11_ask_39 : decode cX11_ask 39 = .ok (.istore 4, 2) := dcu_54 (by decide +kernel)
theorem dX11_ask_41 : decode cX11_ask 41 = .ok (.iload 4, 2) := dcu_21 (by decide +kernel)
theorem dX11_ask_43 : decode cX11_ask 43 = .ok (.aload_n 0, 1) := dc1_42 (by decide +kernel)
theorem dX11_ask_44 : decode cX11_ask 44 = .ok (.invokevirtual 285, 3) := dcw_182 (by decide +kernel)
theorem dX11_ask_47 : decode cX11_ask 47 = .ok (.if_icmp .ge 72, 3) := dcs_162 (n := 72) (by decide +kernel)
theorem dX11_ask_50 : decode cX11_ask 50 = .ok (.aload_n 0, 1) := dc1_42 (by decide +kernel)
theorem dX11_ask_51 : decode cX11_ask 51 = .ok (.iload 4, 2) := dcu_21 (by decide +kernel)
theorem dX11_ask_53 : decode cX11_ask 53 = .ok (.iload_n 1, 1) := dc1_27 (by decide +kernel)
theorem dX11_ask_54 : decode cX11_ask 54 = .ok (.iload_n 2, 1) := dc1_28 (by decide +kernel)
theorem dX11_ask_55 : decode cX11_ask 55 = .ok (.invokevirtual 425, 3) := dcw_182 (by decide +kernel)
theorem dX11_ask_58 : decode cX11_ask 58 = .ok (.ifCond .ne 6, 3) := dcs_154 (n := 6) (by decide +kernel)
theorem dX11_ask_61 : decode cX11_ask 61 = .ok (.goto 52, 3) := dcs_167 (n := 52) (by decide +kernel)
theorem dX11_ask_64 : decode cX11_ask 64 = .ok (.iinc 3 1, 3) := dc_iinc (m := 1) (by decide +kernel)
theorem dX11_ask_67 : decode cX11_ask 67 = .ok (.iconst 0, 1) := dc1_3 (by decide +kernel)
theorem dX11_ask_68 : decode cX11_ask 68 = .ok (.istore 5, 2) := dcu_54 (by decide +kernel)
theorem dX11_ask_70 : decode cX11_ask 70 = .ok (.iload 5, 2) := dcu_21 (by decide +kernel)
theorem dX11_ask_72 : decode cX11_ask 72 = .ok (.aload_n 0, 1) := dc1_42 (by decide +kernel)
theorem dX11_ask_73 : decode cX11_ask 73 = .ok (.getfield 40, 3) := dcw_180 (by decide +kernel)
theorem dX11_ask_76 : decode cX11_ask 76 = .ok (.aload_n 0, 1) := dc1_42 (by decide +kernel)
theorem dX11_ask_77 : decode cX11_ask 77 = .ok (.getfield 215, 3) := dcw_180 (by decide +kernel)
theorem dX11_ask_80 : decode cX11_ask 80 = .ok (.iaload, 1) := dc1_46 (by decide +kernel)
theorem dX11_ask_81 : decode cX11_ask 81 = .ok (.if_icmp .ge 32, 3) := dcs_162 (n := 32) (by decide +kernel)
theorem dX11_ask_84 : decode cX11_ask 84 = .ok (.aload_n 0, 1) := dc1_42 (by decide +kernel)
theorem dX11_ask_85 : decode cX11_ask 85 = .ok (.getfield 125, 3) := dcw_180 (by decide +kernel)
theorem dX11_ask_88 : decode cX11_ask 88 = .ok (.bipush 6, 2) := dcb_16 (n := 6) (by decide +kernel)
theorem dX11_ask_90 : decode cX11_ask 90 = .ok (.iload 5, 2) := dcu_21 (by decide +kernel)
theorem dX11_ask_92 : decode cX11_ask 92 = .ok (.imul, 1) := dc1_104 (by decide +kernel)
theorem dX11_ask_93 : decode cX11_ask 93 = .ok (.aload_n 0, 1) := dc1_42 (by decide +kernel)
theorem dX11_ask_94 : decode cX11_ask 94 = .ok (.iload 4, 2) := dcu_21 (by decide +kernel)
theorem dX11_ask_96 : decode cX11_ask 96 = .ok (.iload 5, 2) := dcu_21 (by decide +kernel)
theorem dX11_ask_98 : decode cX11_ask 98 = .ok (.invokevirtual 330, 3) := dcw_182 (by decide +kernel)
theorem dX11_ask_101 : decode cX11_ask 101 = .ok (.iadd, 1) := dc1_96 (by decide +kernel)
theorem dX11_ask_102 : decode cX11_ask 102 = .ok (.dup2, 1) := dc1_92 (by decide +kernel)
theorem dX11_ask_103 : decode cX11_ask 103 = .ok (.iaload, 1) := dc1_46 (by decide +kernel)
theorem dX11_ask_104 : decode cX11_ask 104 = .ok (.iconst 1, 1) := dc1_4 (by decide +kernel)
theorem dX11_ask_105 : decode cX11_ask 105 = .ok (.iadd, 1) := dc1_96 (by decide +kernel)
theorem dX11_ask_106 : decode cX11_ask 106 = .ok (.iastore, 1) := dc1_79 (by decide +kernel)
theorem dX11_ask_107 : decode cX11_ask 107 = .ok (.iinc 5 1, 3) := dc_iinc (m := 1) (by decide +kernel)
theorem dX11_ask_110 : decode cX11_ask 110 = .ok (.goto (-40), 3) := dcs_167 (n := 65496) (by decide +kernel)
theorem dX11_ask_113 : decode cX11_ask 113 = .ok (.iinc 4 1, 3) := dc_iinc (m := 1) (by decide +kernel)
theorem dX11_ask_116 : decode cX11_ask 116 = .ok (.goto (-75), 3) := dcs_167 (n := 65461) (by decide +kernel)
theorem dX11_ask_119 : decode cX11_ask 119 = .ok (.bipush (-2), 2) := dcb_16 (n := 254) (by decide +kernel)
theorem dX11_ask_121 : decode cX11_ask 121 = .ok (.istore 4, 2) := dcu_54 (by decide +kernel)
theorem dX11_ask_123 : decode cX11_ask 123 = .ok (.iconst 0, 1) := dc1_3 (by decide +kernel)
theorem dX11_ask_124 : decode cX11_ask 124 = .ok (.istore 5, 2) := dcu_54 (by decide +kernel)
theorem dX11_ask_126 : decode cX11_ask 126 = .ok (.iload 5, 2) := dcu_21 (by decide +kernel)
theorem dX11_ask_128 : decode cX11_ask 128 = .ok (.aload_n 0, 1) := dc1_42 (by decide +kernel)
theorem dX11_ask_129 : decode cX11_ask 129 = .ok (.getfield 40, 3) := dcw_180 (by decide +kernel)
theorem dX11_ask_132 : decode cX11_ask 132 = .ok (.aload_n 0, 1) := dc1_42 (by decide +kernel)
theorem dX11_ask_133 : decode cX11_ask 133 = .ok (.getfield 215, 3) := dcw_180 (by decide +kernel)
theorem dX11_ask_136 : decode cX11_ask 136 = .ok (.iaload, 1) := dc1_46 (by decide +kernel)
theorem dX11_ask_137 : decode cX11_ask 137 = .ok (.if_icmp .ge 37, 3) := dcs_162 (n := 37) (by decide +kernel)
theorem dX11_ask_140 : decode cX11_ask 140 = .ok (.iload_n 3, 1) := dc1_29 (by decide +kernel)
theorem dX11_ask_141 : decode cX11_ask 141 = .ok (.ifCond .le 33, 3) := dcs_158 (n := 33) (by decide +kernel)
theorem dX11_ask_144 : decode cX11_ask 144 = .ok (.iload 4, 2) := dcu_21 (by decide +kernel)
theorem dX11_ask_146 : decode cX11_ask 146 = .ok (.ifCond .lt 18, 3) := dcs_155 (n := 18) (by decide +kernel)
theorem dX11_ask_149 : decode cX11_ask 149 = .ok (.aload_n 0, 1) := dc1_42 (by decide +kernel)
theorem dX11_ask_150 : decode cX11_ask 150 = .ok (.iload 5, 2) := dcu_21 (by decide +kernel)
theorem dX11_ask_152 : decode cX11_ask 152 = .ok (.invokevirtual 428, 3) := dcw_182 (by decide +kernel)
theorem dX11_ask_155 : decode cX11_ask 155 = .ok (.aload_n 0, 1) := dc1_42 (by decide +kernel)
theorem dX11_ask_156 : decode cX11_ask 156 = .ok (.iload 4, 2) := dcu_21 (by decide +kernel)
theorem dX11_ask_158 : decode cX11_ask 158 = .ok (.invokevirtual 428, 3) := dcw_182 (by decide +kernel)
theorem dX11_ask_161 : decode cX11_ask 161 = .ok (.if_icmp .ge 7, 3) := dcs_162 (n := 7) (by decide +kernel)
theorem dX11_ask_164 : decode cX11_ask 164 = .ok (.iload 5, 2) := dcu_21 (by decide +kernel)
theorem dX11_ask_166 : decode cX11_ask 166 = .ok (.istore 4, 2) := dcu_54 (by decide +kernel)
theorem dX11_ask_168 : decode cX11_ask 168 = .ok (.iinc 5 1, 3) := dc_iinc (m := 1) (by decide +kernel)
theorem dX11_ask_171 : decode cX11_ask 171 = .ok (.goto (-45), 3) := dcs_167 (n := 65491) (by decide +kernel)
theorem dX11_ask_174 : decode cX11_ask 174 = .ok (.iload 4, 2) := dcu_21 (by decide +kernel)
theorem dX11_ask_176 : decode cX11_ask 176 = .ok (.ireturn, 1) := dc1_172 (by decide +kernel)
theorem LX11_isAsked_233 : Cond.fieldLink RX11 233 "GuessFerryModel" "tolds" "I" ∈ wsX11_isAsked := by decide +kernel
theorem inX11_isAsked_X11 : ∀ w ∈ u_ws RX11 TX11 58, w ∈ wsX11_isAsked := by decide +kernel
set_option maxHeartbeats 4000000 in
set_option maxRecDepth 100000 in
theorem br_isAsked {l : Launch} {dC : Nat → ClassId} {dI : Nat → Nat → Nat} {cB cI cJ cZ cS : ClassId} {h : Nat} {a : Nat → Nat} {as : List Value} {r : Int32} {s' : RS} (s : RS) (x1 : Int32) (x2 : Int32) (hB : r_isAsked s x1 x2 = some (r, s')) : BlkI l yX11_isAsked wsX11_isAsked ({ frames := 1, cells := 0, slots := 0, locals := 22 }) cX11_isAsked 3 (some .boolean) (dC, dI) (tysA cB cI cJ cZ cS) as 0 (mwS cB cI cJ cZ h a s) [(0, .ref h), (1, .int x1), (2, .int x2)] [] (fun x u => x = r ∧ u = (mwS cB cI cJ cZ h a s')) := by
  intro p e s0 m below meth c A E H locs ls hP hD hS hl
  obtain ⟨C, hr, hlocks, hA, hK, hN⟩ := id E
  obtain ⟨hx, hb, hml, hown, hts⟩ := id C
  unfold r_isAsked at hB
  refine lv_iload_n hx hb dX11_isAsked_0 rfl (lv_at hl 1 rfl) ?_
  refine lv_iconst (v := 0) hx hb dX11_isAsked_1 (by decide) ?_
  refine lv_aload_n hx hb dX11_isAsked_2 rfl (lv_at hl 0 rfl) ?_
  refine q_get (v := .int (s.v 51)) C inX11_isAsked_X11 hK hP 0 rfl rfl 51 (by decide) rfl LX11_isAsked_233 rfl dX11_isAsked_3 ?_
  obtain ⟨q_, hc, hB⟩ := bindP_inv hB
  refine q_goi0 (va_runS (As := [.int x1, .int 0, .int (s.v 51)]) (rest := []) C (cr_in hc _) (va_cwS 3 hts gX11_isAsked_X11_in rfl rfl rfl (by decide +kernel) ⟨Nat.le_of_ble_eq_true rfl, Nat.le_of_ble_eq_true rfl⟩) (q_pre0 hN hK) rfl rfl hl.1 rfl (lv_room (Nat.le_of_ble_eq_true rfl)) dX11_isAsked_6 ⟨Nat.le_of_ble_eq_true rfl, Nat.le_of_ble_eq_true rfl⟩) hP hD hS hA (fun r1 w1 H locs hw hP hS => ?_)
  subst hw
  refine lv_if_eq (tgt := 25) hx hb dX11_isAsked_9 (by decide) (fun c2 => ?_) (fun c2 => ?_)
  · have hB := if_p hB c2
    refine lv_iconst (v := 0) hx hb dX11_isAsked_25 (by decide) ?_
    exact q_zret C hr hlocks (Or.inl rfl) hK hP hD hS (Nat.le_of_ble_eq_true rfl) (Nat.le_of_ble_eq_true rfl) dX11_isAsked_26 (by cases hB; exact ⟨rfl, rfl⟩)
  · have hB := if_n hB c2
    refine lv_iload_n hx hb dX11_isAsked_12 rfl (lv_at hl 2 rfl) ?_
    refine lv_iconst (v := 0) hx hb dX11_isAsked_13 (by decide) ?_
    refine lv_iconst (v := 3) hx hb dX11_isAsked_14 (by decide) ?_
    obtain ⟨q_, hc, hB⟩ := bindP_inv hB
    refine q_goi0 (va_runS (As := [.int x2, .int 0, .int 3]) (rest := []) C (cr_in hc _) (va_cwS 3 hts gX11_isAsked_X11_in rfl rfl rfl (by decide +kernel) ⟨Nat.le_of_ble_eq_true rfl, Nat.le_of_ble_eq_true rfl⟩) (q_pre0 hN hK) rfl rfl hl.1 rfl (lv_room (Nat.le_of_ble_eq_true rfl)) dX11_isAsked_15 ⟨Nat.le_of_ble_eq_true rfl, Nat.le_of_ble_eq_true rfl⟩) hP hD hS hA (fun r3 w1 H locs hw hP hS => ?_)
    subst hw
    refine lv_if_eq (tgt := 25) hx hb dX11_isAsked_18 (by decide) (fun c4 => ?_) (fun c4 => ?_)
    · have hB := if_p hB c4
      refine lv_iconst (v := 0) hx hb dX11_isAsked_25 (by decide) ?_
      exact q_zret C hr hlocks (Or.inl rfl) hK hP hD hS (Nat.le_of_ble_eq_true rfl) (Nat.le_of_ble_eq_true rfl) dX11_isAsked_26 (by cases hB; exact ⟨rfl, rfl⟩)
    · have hB := if_n hB c4
      refine lv_iconst (v := 1) hx hb dX11_isAsked_21 (by decide) ?_
      refine lv_goto (tgt := 26) hx hb dX11_isAsked_22 (by decide) ?_
      exact q_zret C hr hlocks (Or.inr rfl) hK hP hD hS (Nat.le_of_ble_eq_true rfl) (Nat.le_of_ble_eq_true rfl) dX11_isAsked_26 (by cases hB; exact ⟨rfl, rfl⟩)
theorem cr_isAsked {l : Launch} {dC : Nat → ClassId} {dI : Nat → Nat → Nat} {cB cI cJ cZ cS : ClassId} {h : Nat} {a : Nat → Nat} {r : Int32} {s' : RS} {s : RS} {x1 : Int32} {x2 : Int32} (hB : r_isAsked s x1 x2 = some (r, s')) : CI l yX11_isAsked wsX11_isAsked ({ frames := 1, cells := 0, slots := 0, locals := 22 }) (dC, dI) (tysA cB cI cJ cZ cS) (mwS cB cI cJ cZ h a s) [.ref h, .int x1, .int x2] (fun x u => x = r ∧ u = (mwS cB cI cJ cZ h a s')) :=
  CI_of (cc := cX11_isAsked) (maxL := 3) (ret := (some .boolean)) (by decide) rfl (Nat.le_of_ble_eq_true rfl) (br_isAsked _ _ _ hB)
theorem LX11_fit_113 : Cond.fieldLink RX11 113 "GuessFerryModel" "chanceBy" "[I" ∈ wsX11_fit := by decide +kernel
theorem inX11_fit_X11 : ∀ w ∈ u_ws RX11 TX11 58, w ∈ wsX11_fit := by decide +kernel
set_option maxHeartbeats 4000000 in
set_option maxRecDepth 100000 in
theorem br_fit_70 {l : Launch} {dC : Nat → ClassId} {dI : Nat → Nat → Nat} {cB cI cJ cZ cS : ClassId} {h : Nat} {a : Nat → Nat} {as : List Value} {r : Int32} {s' : RS} {k30 : RS → Int32 → Int32 → Int32 → Int32 → Int32 → Option (Int32 × RS)} (hk30 : ∀ (s : RS) (x1 : Int32) (x2 : Int32) (x3 : Int32) (x4 : Int32) (x5 : Int32), k30 s x1 x2 x3 x4 x5 = some (r, s') → BlkI l yX11_fit wsX11_fit ({ frames := 5, cells := 0, slots := 0, locals := 112 }) cX11_fit 6 (some .int) (dC, dI) (tysA cB cI cJ cZ cS) as 30 (mwS cB cI cJ cZ h a s) [(0, .ref h), (1, .int x1), (2, .int x2), (3, .int x3), (4, .int x4), (5, .int x5)] [] (fun x u => x = r ∧ u = (mwS cB cI cJ cZ h a s'))) (s : RS) (x1 : Int32) (x2 : Int32) (x3 : Int32) (x4 : Int32) (x5 : Int32) (hB : r_fit_70 k30 s x1 x2 x3 x4 x5 = some (r, s')) : BlkI l yX11_fit wsX11_fit ({ frames := 5, cells := 0, slots := 0, locals := 112 }) cX11_fit 6 (some .int) (dC, dI) (tysA cB cI cJ cZ cS) as 70 (mwS cB cI cJ cZ h a s) [(0, .ref h), (1, .int x1), (2, .int x2), (3, .int x3), (4, .int x4), (5, .int x5)] [] (fun x u => x = r ∧ u = (mwS cB cI cJ cZ h a s')) := by
  intro p e s0 m below meth c A E H locs ls hP hD hS hl
  obtain ⟨C, hr, hlocks, hA, hK, hN⟩ := id E
  obtain ⟨hx, hb, hml, hown, hts⟩ := id C
  unfold r_fit_70 at hB
  refine lv_iinc (v := (x5 + 1)) (lv' := [(5, .int (x5 + 1)), (0, .ref h), (1, .int x1), (2, .int x2), (3, .int x3), (4, .int x4)]) hx hb dX11_fit_70 hl (k := 5) rfl (rfl) (by decide) rfl (fun ls hl => ?_)
  refine lv_goto (tgt := 30) hx hb dX11_fit_73 (by decide) ?_
  exact hk30 _ _ _ _ _ _ hB p e s0 m below meth c A E H locs ls hP hD hS (lv_sub hl [1, 2, 3, 4, 5, 0] rfl)
set_option maxHeartbeats 4000000 in
set_option maxRecDepth 100000 in
theorem br_fit_67 {l : Launch} {dC : Nat → ClassId} {dI : Nat → Nat → Nat} {cB cI cJ cZ cS : ClassId} {h : Nat} {a : Nat → Nat} {as : List Value} {r : Int32} {s' : RS} {k30 : RS → Int32 → Int32 → Int32 → Int32 → Int32 → Option (Int32 × RS)} (hk30 : ∀ (s : RS) (x1 : Int32) (x2 : Int32) (x3 : Int32) (x4 : Int32) (x5 : Int32), k30 s x1 x2 x3 x4 x5 = some (r, s') → BlkI l yX11_fit wsX11_fit ({ frames := 5, cells := 0, slots := 0, locals := 112 }) cX11_fit 6 (some .int) (dC, dI) (tysA cB cI cJ cZ cS) as 30 (mwS cB cI cJ cZ h a s) [(0, .ref h), (1, .int x1), (2, .int x2), (3, .int x3), (4, .int x4), (5, .int x5)] [] (fun x u => x = r ∧ u = (mwS cB cI cJ cZ h a s'))) (s : RS) (x1 : Int32) (x2 : Int32) (x3 : Int32) (x5 : Int32) (t0 : Int32) (t1 : Int32) (hB : r_fit_67 k30 s x1 x2 x3 x5 t0 t1 = some (r, s')) : BlkI l yX11_fit wsX11_fit ({ frames := 5, cells := 0, slots := 0, locals := 112 }) cX11_fit 6 (some .int) (dC, dI) (tysA cB cI cJ cZ cS) as 67 (mwS cB cI cJ cZ h a s) [(0, .ref h), (1, .int x1), (2, .int x2), (3, .int x3), (5, .int x5)] [.int t0, .int t1] (fun x u => x = r ∧ u = (mwS cB cI cJ cZ h a s')) := by
  intro p e s0 m below meth c A E H locs ls hP hD hS hl
  obtain ⟨C, hr, hlocks, hA, hK, hN⟩ := id E
  obtain ⟨hx, hb, hml, hown, hts⟩ := id C
  unfold r_fit_67 at hB
  refine lv_iadd hx hb dX11_fit_67 ?_
  refine lv_istore (lv' := [(4, .int (t1 + t0)), (0, .ref h), (1, .int x1), (2, .int x2), (3, .int x3), (5, .int x5)]) hx hb dX11_fit_68 hl (by decide) rfl (fun ls hl => ?_)
  exact br_fit_70 (hk30) _ _ _ _ _ _ hB p e s0 m below meth c A E H locs ls hP hD hS (lv_sub hl [1, 2, 3, 4, 0, 5] rfl)
set_option maxHeartbeats 4000000 in
set_option maxRecDepth 100000 in
theorem br_fit_30 {l : Launch} {dC : Nat → ClassId} {dI : Nat → Nat → Nat} {cB cI cJ cZ cS : ClassId} {h : Nat} {a : Nat → Nat} {as : List Value} {r : Int32} {s' : RS} {k30 : RS → Int32 → Int32 → Int32 → Int32 → Int32 → Option (Int32 × RS)} (hk30 : ∀ (s : RS) (x1 : Int32) (x2 : Int32) (x3 : Int32) (x4 : Int32) (x5 : Int32), k30 s x1 x2 x3 x4 x5 = some (r, s') → BlkI l yX11_fit wsX11_fit ({ frames := 5, cells := 0, slots := 0, locals := 112 }) cX11_fit 6 (some .int) (dC, dI) (tysA cB cI cJ cZ cS) as 30 (mwS cB cI cJ cZ h a s) [(0, .ref h), (1, .int x1), (2, .int x2), (3, .int x3), (4, .int x4), (5, .int x5)] [] (fun x u => x = r ∧ u = (mwS cB cI cJ cZ h a s'))) (s : RS) (x1 : Int32) (x2 : Int32) (x3 : Int32) (x4 : Int32) (x5 : Int32) (hB : r_fit_30 k30 s x1 x2 x3 x4 x5 = some (r, s')) : BlkI l yX11_fit wsX11_fit ({ frames := 5, cells := 0, slots := 0, locals := 112 }) cX11_fit 6 (some .int) (dC, dI) (tysA cB cI cJ cZ cS) as 30 (mwS cB cI cJ cZ h a s) [(0, .ref h), (1, .int x1), (2, .int x2), (3, .int x3), (4, .int x4), (5, .int x5)] [] (fun x u => x = r ∧ u = (mwS cB cI cJ cZ h a s')) := by
  intro p e s0 m below meth c A E H locs ls hP hD hS hl
  obtain ⟨C, hr, hlocks, hA, hK, hN⟩ := id E
  obtain ⟨hx, hb, hml, hown, hts⟩ := id C
  unfold r_fit_30 at hB
  refine lv_iload hx hb dX11_fit_30 (lv_at hl 5 rfl) ?_
  refine lv_aload_n hx hb dX11_fit_32 rfl (lv_at hl 0 rfl) ?_
  obtain ⟨q_, s1, hc, hB⟩ := bindI_inv hB
  refine q_goiF (va_runV (As := []) (rest := [.int x5]) C (cr_guesses hc _) (cwV 0 hts gX11_fit_X11_guesses rfl rfl rfl (by decide +kernel) ⟨Nat.le_of_ble_eq_true rfl, Nat.le_of_ble_eq_true rfl⟩) (q_preV hK hP (ci := 11) (q0 := 0) rfl rfl rfl (q_preF hN hK hP hD)) rfl rfl hl.1 rfl (lv_room (Nat.le_of_ble_eq_true rfl)) dX11_fit_33 ⟨Nat.le_of_ble_eq_true rfl, Nat.le_of_ble_eq_true rfl⟩) hD hS hA (fun r2 w1 H locs hw hP hD hS => ?_)
  obtain ⟨hq_, hw⟩ := hw; subst hw; subst hq_
  refine lv_icmp_ge (tgt := 76) hx hb dX11_fit_36 (by decide) (fun c3 => ?_) (fun c3 => ?_)
  · have hB := if_p hB c3
    refine lv_iload hx hb dX11_fit_76 (lv_at hl 4 rfl) ?_
    exact q_iret C hr hlocks hK hP hD hS (Nat.le_of_ble_eq_true rfl) (Nat.le_of_ble_eq_true rfl) dX11_fit_78 (by cases hB; exact ⟨rfl, rfl⟩)
  · have hB := if_n hB c3
    refine lv_aload_n hx hb dX11_fit_39 rfl (lv_at hl 0 rfl) ?_
    refine lv_iload hx hb dX11_fit_40 (lv_at hl 5 rfl) ?_
    refine lv_iload_n hx hb dX11_fit_42 rfl (lv_at hl 1 rfl) ?_
    refine lv_iload_n hx hb dX11_fit_43 rfl (lv_at hl 2 rfl) ?_
    obtain ⟨q_, s4, hc, hB⟩ := bindI_inv hB
    refine q_goiF (va_runV (As := [.int x5, .int x1, .int x2]) (rest := []) C (cr_doesFit hc _) (cwV 3 hts gX11_fit_X11_doesFit rfl rfl rfl (by decide +kernel) ⟨Nat.le_of_ble_eq_true rfl, Nat.le_of_ble_eq_true rfl⟩) (q_preV hK hP (ci := 11) (q0 := 0) rfl rfl rfl (q_preF hN hK hP hD)) rfl rfl hl.1 rfl (lv_room (Nat.le_of_ble_eq_true rfl)) dX11_fit_44 ⟨Nat.le_of_ble_eq_true rfl, Nat.le_of_ble_eq_true rfl⟩) hD hS hA (fun r5 w1 H locs hw hP hD hS => ?_)
    obtain ⟨hq_, hw⟩ := hw; subst hw; subst hq_
    refine lv_if_eq (tgt := 70) hx hb dX11_fit_47 (by decide) (fun c6 => ?_) (fun c6 => ?_)
    · have hB := if_p hB c6
      exact br_fit_70 (hk30) _ _ _ _ _ _ hB p e s0 m below meth c A E H locs ls hP hD hS (lv_sub hl [0, 1, 2, 3, 4, 5] rfl)
    · have hB := if_n hB c6
      refine lv_iload hx hb dX11_fit_50 (lv_at hl 4 rfl) ?_
      refine lv_iload_n hx hb dX11_fit_52 rfl (lv_at hl 3 rfl) ?_
      refine lv_if_ne (tgt := 60) hx hb dX11_fit_53 (by decide) (fun c7 => ?_) (fun c7 => ?_)
      · have hB := if_n hB c7
        refine lv_aload_n hx hb dX11_fit_60 rfl (lv_at hl 0 rfl) ?_
        refine q_get (v := .ref (a 50)) C inX11_fit_X11 hK hP 0 rfl rfl 50 (by decide) rfl LX11_fit_113 rfl dX11_fit_61 ?_
        refine lv_iload hx hb dX11_fit_64 (lv_at hl 5 rfl) ?_
        obtain ⟨g8, hB⟩ := guard_inv hB
        refine q_iald (x := (s4.f 50 (Int32.toNatClampNeg x5))) C hK hP 32 1 rfl rfl (vpb_in g8) dX11_fit_66 rfl ?_
        exact br_fit_67 (hk30) _ _ _ _ _ _ _ hB p e s0 m below meth c A E H locs ls hP hD hS (lv_sub hl [0, 1, 2, 3, 5] rfl)
      · have hB := if_p hB c7
        refine lv_iconst (v := 1) hx hb dX11_fit_56 (by decide) ?_
        refine lv_goto (tgt := 67) hx hb dX11_fit_57 (by decide) ?_
        exact br_fit_67 (hk30) _ _ _ _ _ _ _ hB p e s0 m below meth c A E H locs ls hP hD hS (lv_sub hl [0, 1, 2, 3, 5] rfl)
theorem br_fit_30L {l : Launch} {dC : Nat → ClassId} {dI : Nat → Nat → Nat} {cB cI cJ cZ cS : ClassId} {h : Nat} {a : Nat → Nat} {as : List Value} {r : Int32} {s' : RS} : ∀ (n : Nat) (s : RS) (x1 : Int32) (x2 : Int32) (x3 : Int32) (x4 : Int32) (x5 : Int32), r_fit_30L n s x1 x2 x3 x4 x5 = some (r, s') → BlkI l yX11_fit wsX11_fit ({ frames := 5, cells := 0, slots := 0, locals := 112 }) cX11_fit 6 (some .int) (dC, dI) (tysA cB cI cJ cZ cS) as 30 (mwS cB cI cJ cZ h a s) [(0, .ref h), (1, .int x1), (2, .int x2), (3, .int x3), (4, .int x4), (5, .int x5)] [] (fun x u => x = r ∧ u = (mwS cB cI cJ cZ h a s')) := by
  intro n
  induction n with
  | zero => intro s x1 x2 x3 x4 x5 hB; exact none_ne hB
  | succ n ih => intro s x1 x2 x3 x4 x5 hB; exact br_fit_30 ih _ _ _ _ _ _ hB
set_option maxHeartbeats 4000000 in
set_option maxRecDepth 100000 in
theorem br_fit {l : Launch} {dC : Nat → ClassId} {dI : Nat → Nat → Nat} {cB cI cJ cZ cS : ClassId} {h : Nat} {a : Nat → Nat} {as : List Value} {r : Int32} {s' : RS} (s : RS) (x1 : Int32) (x2 : Int32) (x3 : Int32) (hB : r_fit s x1 x2 x3 = some (r, s')) : BlkI l yX11_fit wsX11_fit ({ frames := 5, cells := 0, slots := 0, locals := 112 }) cX11_fit 6 (some .int) (dC, dI) (tysA cB cI cJ cZ cS) as 0 (mwS cB cI cJ cZ h a s) [(0, .ref h), (1, .int x1), (2, .int x2), (3, .int x3)] [] (fun x u => x = r ∧ u = (mwS cB cI cJ cZ h a s')) := by
  intro p e s0 m below meth c A E H locs ls hP hD hS hl
  obtain ⟨C, hr, hlocks, hA, hK, hN⟩ := id E
  obtain ⟨hx, hb, hml, hown, hts⟩ := id C
  unfold r_fit at hB
  refine lv_aload_n hx hb dX11_fit_0 rfl (lv_at hl 0 rfl) ?_
  refine lv_iload_n hx hb dX11_fit_1 rfl (lv_at hl 1 rfl) ?_
  refine lv_iload_n hx hb dX11_fit_2 rfl (lv_at hl 2 rfl) ?_
  obtain ⟨q_, s1, hc, hB⟩ := bindI_inv hB
  refine q_goiF (va_runV (As := [.int x1, .int x2]) (rest := []) C (cr_isAsked hc _) (cwV 2 hts gX11_fit_X11_isAsked rfl rfl rfl (by decide +kernel) ⟨Nat.le_of_ble_eq_true rfl, Nat.le_of_ble_eq_true rfl⟩) (q_preV hK hP (ci := 11) (q0 := 0) rfl rfl rfl (q_preF hN hK hP hD)) rfl rfl hl.1 rfl (lv_room (Nat.le_of_ble_eq_true rfl)) dX11_fit_3 ⟨Nat.le_of_ble_eq_true rfl, Nat.le_of_ble_eq_true rfl⟩) hD hS hA (fun r2 w1 H locs hw hP hD hS => ?_)
  obtain ⟨hq_, hw⟩ := hw; subst hw; subst hq_
  refine lv_if_eq (tgt := 18) hx hb dX11_fit_6 (by decide) (fun c3 => ?_) (fun c3 => ?_)
  · have hB := if_p hB c3
    refine lv_iconst (v := (-1)) hx hb dX11_fit_18 (by decide) ?_
    exact q_iret C hr hlocks hK hP hD hS (Nat.le_of_ble_eq_true rfl) (Nat.le_of_ble_eq_true rfl) dX11_fit_19 (by cases hB; exact ⟨rfl, rfl⟩)
  · have hB := if_n hB c3
    refine lv_iload_n hx hb dX11_fit_9 rfl (lv_at hl 3 rfl) ?_
    refine lv_iconst (v := 0) hx hb dX11_fit_10 (by decide) ?_
    refine lv_iconst (v := 1) hx hb dX11_fit_11 (by decide) ?_
    obtain ⟨q_, hc, hB⟩ := bindP_inv hB
    refine q_goi0 (va_runS (As := [.int x3, .int 0, .int 1]) (rest := []) C (cr_in hc _) (va_cwS 3 hts gX11_fit_X11_in rfl rfl rfl (by decide +kernel) ⟨Nat.le_of_ble_eq_true rfl, Nat.le_of_ble_eq_true rfl⟩) (q_pre0 hN hK) rfl rfl hl.1 rfl (lv_room (Nat.le_of_ble_eq_true rfl)) dX11_fit_12 ⟨Nat.le_of_ble_eq_true rfl, Nat.le_of_ble_eq_true rfl⟩) hP hD hS hA (fun r4 w1 H locs hw hP hS => ?_)
    subst hw
    refine lv_if_ne (tgt := 20) hx hb dX11_fit_15 (by decide) (fun c5 => ?_) (fun c5 => ?_)
    · have hB := if_n hB c5
      refine lv_aload_n hx hb dX11_fit_20 rfl (lv_at hl 0 rfl) ?_
      obtain ⟨s6, hc, hB⟩ := bindP_inv hB
      refine q_govF (va_runV (As := []) (rest := []) C (cr_fillsChances hc _) (cwV 0 hts gX11_fit_X11_fillsChances rfl rfl rfl (by decide +kernel) ⟨Nat.le_of_ble_eq_true rfl, Nat.le_of_ble_eq_true rfl⟩) (q_preV hK hP (ci := 11) (q0 := 0) rfl rfl rfl (q_preF hN hK hP hD)) rfl rfl hl.1 rfl (lv_room (Nat.le_of_ble_eq_true rfl)) dX11_fit_21 ⟨Nat.le_of_ble_eq_true rfl, Nat.le_of_ble_eq_true rfl⟩) hD hS hA (fun w1 H locs hw hP hD hS => ?_)
      subst hw
      refine lv_iconst (v := 0) hx hb dX11_fit_24 (by decide) ?_
      refine lv_istore (lv' := [(4, .int 0), (0, .ref h), (1, .int x1), (2, .int x2), (3, .int x3)]) hx hb dX11_fit_25 hl (by decide) rfl (fun ls hl => ?_)
      refine lv_iconst (v := 0) hx hb dX11_fit_27 (by decide) ?_
      refine lv_istore (lv' := [(5, .int 0), (4, .int 0), (0, .ref h), (1, .int x1), (2, .int x2), (3, .int x3)]) hx hb dX11_fit_28 hl (by decide) rfl (fun ls hl => ?_)
      exact br_fit_30L fu _ _ _ _ _ _ hB p e s0 m below meth c A E H locs ls hP hD hS (lv_sub hl [2, 3, 4, 5, 1, 0] rfl)
    · have hB := if_p hB c5
      refine lv_iconst (v := (-1)) hx hb dX11_fit_18 (by decide) ?_
      exact q_iret C hr hlocks hK hP hD hS (Nat.le_of_ble_eq_true rfl) (Nat.le_of_ble_eq_true rfl) dX11_fit_19 (by cases hB; exact ⟨rfl, rfl⟩)
theorem cr_fit {l : Launch} {dC : Nat → ClassId} {dI : Nat → Nat → Nat} {cB cI cJ cZ cS : ClassId} {h : Nat} {a : Nat → Nat} {r : Int32} {s' : RS} {s : RS} {x1 : Int32} {x2 : Int32} {x3 : Int32} (hB : r_fit s x1 x2 x3 = some (r, s')) : CI l yX11_fit wsX11_fit ({ frames := 5, cells := 0, slots := 0, locals := 112 }) (dC, dI) (tysA cB cI cJ cZ cS) (mwS cB cI cJ cZ h a s) [.ref h, .int x1, .int x2, .int x3] (fun x u => x = r ∧ u = (mwS cB cI cJ cZ h a s')) :=
  CI_of (cc := cX11_fit) (maxL := 6) (ret := (some .int)) (by decide) rfl (Nat.le_of_ble_eq_true rfl) (br_fit _ _ _ _ hB)
set_option maxHeartbeats 4000000 in
set_option maxRecDepth 100000 in
theorem br_lie_82 {l : Launch} {dC : Nat → ClassId} {dI : Nat → Nat → Nat} {cB cI cJ cZ cS : ClassId} {h : Nat} {a : Nat → Nat} {as : List Value} {r : Int32} {s' : RS} {k24 : RS → Int32 → Int32 → Int32 → Int32 → Option (Int32 × RS)} (hk24 : ∀ (s : RS) (x1 : Int32) (x2 : Int32) (x3 : Int32) (x4 : Int32), k24 s x1 x2 x3 x4 = some (r, s') → BlkI l yX11_lie wsX11_lie ({ frames := 5, cells := 0, slots := 0, locals := 112 }) cX11_lie 6 (some .int) (dC, dI) (tysA cB cI cJ cZ cS) as 24 (mwS cB cI cJ cZ h a s) [(0, .ref h), (1, .int x1), (2, .int x2), (3, .int x3), (4, .int x4)] [] (fun x u => x = r ∧ u = (mwS cB cI cJ cZ h a s'))) (s : RS) (x1 : Int32) (x2 : Int32) (x3 : Int32) (x4 : Int32) (hB : r_lie_82 k24 s x1 x2 x3 x4 = some (r, s')) : BlkI l yX11_lie wsX11_lie ({ frames := 5, cells := 0, slots := 0, locals := 112 }) cX11_lie 6 (some .int) (dC, dI) (tysA cB cI cJ cZ cS) as 82 (mwS cB cI cJ cZ h a s) [(0, .ref h), (1, .int x1), (2, .int x2), (3, .int x3), (4, .int x4)] [] (fun x u => x = r ∧ u = (mwS cB cI cJ cZ h a s')) := by
  intro p e s0 m below meth c A E H locs ls hP hD hS hl
  obtain ⟨C, hr, hlocks, hA, hK, hN⟩ := id E
  obtain ⟨hx, hb, hml, hown, hts⟩ := id C
  unfold r_lie_82 at hB
  refine lv_iinc (v := (x4 + 1)) (lv' := [(4, .int (x4 + 1)), (0, .ref h), (1, .int x1), (2, .int x2), (3, .int x3)]) hx hb dX11_lie_82 hl (k := 4) rfl (rfl) (by decide) rfl (fun ls hl => ?_)
  refine lv_goto (tgt := 24) hx hb dX11_lie_85 (by decide) ?_
  exact hk24 _ _ _ _ _ hB p e s0 m below meth c A E H locs ls hP hD hS (lv_sub hl [1, 2, 3, 4, 0] rfl)
set_option maxHeartbeats 4000000 in
set_option maxRecDepth 100000 in
theorem br_lie_76 {l : Launch} {dC : Nat → ClassId} {dI : Nat → Nat → Nat} {cB cI cJ cZ cS : ClassId} {h : Nat} {a : Nat → Nat} {as : List Value} {r : Int32} {s' : RS} {k24 : RS → Int32 → Int32 → Int32 → Int32 → Option (Int32 × RS)} {k50 : RS → Int32 → Int32 → Int32 → Int32 → Int32 → Option (Int32 × RS)} (hk24 : ∀ (s : RS) (x1 : Int32) (x2 : Int32) (x3 : Int32) (x4 : Int32), k24 s x1 x2 x3 x4 = some (r, s') → BlkI l yX11_lie wsX11_lie ({ frames := 5, cells := 0, slots := 0, locals := 112 }) cX11_lie 6 (some .int) (dC, dI) (tysA cB cI cJ cZ cS) as 24 (mwS cB cI cJ cZ h a s) [(0, .ref h), (1, .int x1), (2, .int x2), (3, .int x3), (4, .int x4)] [] (fun x u => x = r ∧ u = (mwS cB cI cJ cZ h a s'))) (hk50 : ∀ (s : RS) (x1 : Int32) (x2 : Int32) (x3 : Int32) (x4 : Int32) (x5 : Int32), k50 s x1 x2 x3 x4 x5 = some (r, s') → BlkI l yX11_lie wsX11_lie ({ frames := 5, cells := 0, slots := 0, locals := 112 }) cX11_lie 6 (some .int) (dC, dI) (tysA cB cI cJ cZ cS) as 50 (mwS cB cI cJ cZ h a s) [(0, .ref h), (1, .int x1), (2, .int x2), (3, .int x3), (4, .int x4), (5, .int x5)] [] (fun x u => x = r ∧ u = (mwS cB cI cJ cZ h a s'))) (s : RS) (x1 : Int32) (x2 : Int32) (x3 : Int32) (x4 : Int32) (x5 : Int32) (hB : r_lie_76 k24 k50 s x1 x2 x3 x4 x5 = some (r, s')) : BlkI l yX11_lie wsX11_lie ({ frames := 5, cells := 0, slots := 0, locals := 112 }) cX11_lie 6 (some .int) (dC, dI) (tysA cB cI cJ cZ cS) as 76 (mwS cB cI cJ cZ h a s) [(0, .ref h), (1, .int x1), (2, .int x2), (3, .int x3), (4, .int x4), (5, .int x5)] [] (fun x u => x = r ∧ u = (mwS cB cI cJ cZ h a s')) := by
  intro p e s0 m below meth c A E H locs ls hP hD hS hl
  obtain ⟨C, hr, hlocks, hA, hK, hN⟩ := id E
  obtain ⟨hx, hb, hml, hown, hts⟩ := id C
  unfold r_lie_76 at hB
  refine lv_iinc (v := (x5 + 1)) (lv' := [(5, .int (x5 + 1)), (0, .ref h), (1, .int x1), (2, .int x2), (3, .int x3), (4, .int x4)]) hx hb dX11_lie_76 hl (k := 5) rfl (rfl) (by decide) rfl (fun ls hl => ?_)
  refine lv_goto (tgt := 50) hx hb dX11_lie_79 (by decide) ?_
  exact hk50 _ _ _ _ _ _ hB p e s0 m below meth c A E H locs ls hP hD hS (lv_sub hl [1, 2, 3, 4, 5, 0] rfl)
set_option maxHeartbeats 4000000 in
set_option maxRecDepth 100000 in
theorem br_lie_50 {l : Launch} {dC : Nat → ClassId} {dI : Nat → Nat → Nat} {cB cI cJ cZ cS : ClassId} {h : Nat} {a : Nat → Nat} {as : List Value} {r : Int32} {s' : RS} {k24 : RS → Int32 → Int32 → Int32 → Int32 → Option (Int32 × RS)} {k50 : RS → Int32 → Int32 → Int32 → Int32 → Int32 → Option (Int32 × RS)} (hk24 : ∀ (s : RS) (x1 : Int32) (x2 : Int32) (x3 : Int32) (x4 : Int32), k24 s x1 x2 x3 x4 = some (r, s') → BlkI l yX11_lie wsX11_lie ({ frames := 5, cells := 0, slots := 0, locals := 112 }) cX11_lie 6 (some .int) (dC, dI) (tysA cB cI cJ cZ cS) as 24 (mwS cB cI cJ cZ h a s) [(0, .ref h), (1, .int x1), (2, .int x2), (3, .int x3), (4, .int x4)] [] (fun x u => x = r ∧ u = (mwS cB cI cJ cZ h a s'))) (hk50 : ∀ (s : RS) (x1 : Int32) (x2 : Int32) (x3 : Int32) (x4 : Int32) (x5 : Int32), k50 s x1 x2 x3 x4 x5 = some (r, s') → BlkI l yX11_lie wsX11_lie ({ frames := 5, cells := 0, slots := 0, locals := 112 }) cX11_lie 6 (some .int) (dC, dI) (tysA cB cI cJ cZ cS) as 50 (mwS cB cI cJ cZ h a s) [(0, .ref h), (1, .int x1), (2, .int x2), (3, .int x3), (4, .int x4), (5, .int x5)] [] (fun x u => x = r ∧ u = (mwS cB cI cJ cZ h a s'))) (s : RS) (x1 : Int32) (x2 : Int32) (x3 : Int32) (x4 : Int32) (x5 : Int32) (hB : r_lie_50 k24 k50 s x1 x2 x3 x4 x5 = some (r, s')) : BlkI l yX11_lie wsX11_lie ({ frames := 5, cells := 0, slots := 0, locals := 112 }) cX11_lie 6 (some .int) (dC, dI) (tysA cB cI cJ cZ cS) as 50 (mwS cB cI cJ cZ h a s) [(0, .ref h), (1, .int x1), (2, .int x2), (3, .int x3), (4, .int x4), (5, .int x5)] [] (fun x u => x = r ∧ u = (mwS cB cI cJ cZ h a s')) := by
  intro p e s0 m below meth c A E H locs ls hP hD hS hl
  obtain ⟨C, hr, hlocks, hA, hK, hN⟩ := id E
  obtain ⟨hx, hb, hml, hown, hts⟩ := id C
  unfold r_lie_50 at hB
  refine lv_iload hx hb dX11_lie_50 (lv_at hl 5 rfl) ?_
  refine lv_iload_n hx hb dX11_lie_52 rfl (lv_at hl 1 rfl) ?_
  refine lv_icmp_ge (tgt := 82) hx hb dX11_lie_53 (by decide) (fun c1 => ?_) (fun c1 => ?_)
  · have hB := if_p hB c1
    exact br_lie_82 (hk24) _ _ _ _ _ hB p e s0 m below meth c A E H locs ls hP hD hS (lv_sub hl [0, 1, 2, 3, 4] rfl)
  · have hB := if_n hB c1
    refine lv_aload_n hx hb dX11_lie_56 rfl (lv_at hl 0 rfl) ?_
    refine lv_iload hx hb dX11_lie_57 (lv_at hl 4 rfl) ?_
    refine lv_iload hx hb dX11_lie_59 (lv_at hl 5 rfl) ?_
    obtain ⟨q_, s2, hc, hB⟩ := bindI_inv hB
    refine q_goiF (va_runV (As := [.int x4, .int x5]) (rest := []) C (cr_isSo hc _) (cwV 2 hts gX11_lie_X11_isSo rfl rfl rfl (by decide +kernel) ⟨Nat.le_of_ble_eq_true rfl, Nat.le_of_ble_eq_true rfl⟩) (q_preV hK hP (ci := 11) (q0 := 0) rfl rfl rfl (q_preF hN hK hP hD)) rfl rfl hl.1 rfl (lv_room (Nat.le_of_ble_eq_true rfl)) dX11_lie_61 ⟨Nat.le_of_ble_eq_true rfl, Nat.le_of_ble_eq_true rfl⟩) hD hS hA (fun r3 w1 H locs hw hP hD hS => ?_)
    obtain ⟨hq_, hw⟩ := hw; subst hw; subst hq_
    refine lv_if_eq (tgt := 76) hx hb dX11_lie_64 (by decide) (fun c4 => ?_) (fun c4 => ?_)
    · have hB := if_p hB c4
      exact br_lie_76 (hk24) (hk50) _ _ _ _ _ _ hB p e s0 m below meth c A E H locs ls hP hD hS (lv_sub hl [0, 1, 2, 3, 4, 5] rfl)
    · have hB := if_n hB c4
      refine lv_iload_n hx hb dX11_lie_67 rfl (lv_at hl 3 rfl) ?_
      refine lv_iconst (v := 1) hx hb dX11_lie_68 (by decide) ?_
      refine lv_iload hx hb dX11_lie_69 (lv_at hl 5 rfl) ?_
      refine lv_ishl hx hb dX11_lie_71 ?_
      refine lv_iconst (v := (-1)) hx hb dX11_lie_72 (by decide) ?_
      refine lv_ixor hx hb dX11_lie_73 ?_
      refine lv_iand hx hb dX11_lie_74 ?_
      refine lv_istore_n (lv' := [(3, .int (x3 &&& ((1 <<< (x5 &&& 31)) ^^^ (-1)))), (0, .ref h), (1, .int x1), (2, .int x2), (4, .int x4), (5, .int x5)]) hx hb dX11_lie_75 rfl hl (by decide) rfl (fun ls hl => ?_)
      exact br_lie_76 (hk24) (hk50) _ _ _ _ _ _ hB p e s0 m below meth c A E H locs ls hP hD hS (lv_sub hl [1, 2, 3, 0, 4, 5] rfl)
theorem br_lie_50L {l : Launch} {dC : Nat → ClassId} {dI : Nat → Nat → Nat} {cB cI cJ cZ cS : ClassId} {h : Nat} {a : Nat → Nat} {as : List Value} {r : Int32} {s' : RS} {k24 : RS → Int32 → Int32 → Int32 → Int32 → Option (Int32 × RS)} (hk24 : ∀ (s : RS) (x1 : Int32) (x2 : Int32) (x3 : Int32) (x4 : Int32), k24 s x1 x2 x3 x4 = some (r, s') → BlkI l yX11_lie wsX11_lie ({ frames := 5, cells := 0, slots := 0, locals := 112 }) cX11_lie 6 (some .int) (dC, dI) (tysA cB cI cJ cZ cS) as 24 (mwS cB cI cJ cZ h a s) [(0, .ref h), (1, .int x1), (2, .int x2), (3, .int x3), (4, .int x4)] [] (fun x u => x = r ∧ u = (mwS cB cI cJ cZ h a s'))) : ∀ (n : Nat) (s : RS) (x1 : Int32) (x2 : Int32) (x3 : Int32) (x4 : Int32) (x5 : Int32), r_lie_50L k24 n s x1 x2 x3 x4 x5 = some (r, s') → BlkI l yX11_lie wsX11_lie ({ frames := 5, cells := 0, slots := 0, locals := 112 }) cX11_lie 6 (some .int) (dC, dI) (tysA cB cI cJ cZ cS) as 50 (mwS cB cI cJ cZ h a s) [(0, .ref h), (1, .int x1), (2, .int x2), (3, .int x3), (4, .int x4), (5, .int x5)] [] (fun x u => x = r ∧ u = (mwS cB cI cJ cZ h a s')) := by
  intro n
  induction n with
  | zero => intro s x1 x2 x3 x4 x5 hB; exact none_ne hB
  | succ n ih => intro s x1 x2 x3 x4 x5 hB; exact br_lie_50 hk24 ih _ _ _ _ _ _ hB
set_option maxHeartbeats 4000000 in
set_option maxRecDepth 100000 in
theorem br_lie_24 {l : Launch} {dC : Nat → ClassId} {dI : Nat → Nat → Nat} {cB cI cJ cZ cS : ClassId} {h : Nat} {a : Nat → Nat} {as : List Value} {r : Int32} {s' : RS} {k24 : RS → Int32 → Int32 → Int32 → Int32 → Option (Int32 × RS)} (hk24 : ∀ (s : RS) (x1 : Int32) (x2 : Int32) (x3 : Int32) (x4 : Int32), k24 s x1 x2 x3 x4 = some (r, s') → BlkI l yX11_lie wsX11_lie ({ frames := 5, cells := 0, slots := 0, locals := 112 }) cX11_lie 6 (some .int) (dC, dI) (tysA cB cI cJ cZ cS) as 24 (mwS cB cI cJ cZ h a s) [(0, .ref h), (1, .int x1), (2, .int x2), (3, .int x3), (4, .int x4)] [] (fun x u => x = r ∧ u = (mwS cB cI cJ cZ h a s'))) (s : RS) (x1 : Int32) (x2 : Int32) (x3 : Int32) (x4 : Int32) (hB : r_lie_24 k24 s x1 x2 x3 x4 = some (r, s')) : BlkI l yX11_lie wsX11_lie ({ frames := 5, cells := 0, slots := 0, locals := 112 }) cX11_lie 6 (some .int) (dC, dI) (tysA cB cI cJ cZ cS) as 24 (mwS cB cI cJ cZ h a s) [(0, .ref h), (1, .int x1), (2, .int x2), (3, .int x3), (4, .int x4)] [] (fun x u => x = r ∧ u = (mwS cB cI cJ cZ h a s')) := by
  intro p e s0 m below meth c A E H locs ls hP hD hS hl
  obtain ⟨C, hr, hlocks, hA, hK, hN⟩ := id E
  obtain ⟨hx, hb, hml, hown, hts⟩ := id C
  unfold r_lie_24 at hB
  refine lv_iload hx hb dX11_lie_24 (lv_at hl 4 rfl) ?_
  refine lv_aload_n hx hb dX11_lie_26 rfl (lv_at hl 0 rfl) ?_
  obtain ⟨q_, s1, hc, hB⟩ := bindI_inv hB
  refine q_goiF (va_runV (As := []) (rest := [.int x4]) C (cr_guesses hc _) (cwV 0 hts gX11_lie_X11_guesses rfl rfl rfl (by decide +kernel) ⟨Nat.le_of_ble_eq_true rfl, Nat.le_of_ble_eq_true rfl⟩) (q_preV hK hP (ci := 11) (q0 := 0) rfl rfl rfl (q_preF hN hK hP hD)) rfl rfl hl.1 rfl (lv_room (Nat.le_of_ble_eq_true rfl)) dX11_lie_27 ⟨Nat.le_of_ble_eq_true rfl, Nat.le_of_ble_eq_true rfl⟩) hD hS hA (fun r2 w1 H locs hw hP hD hS => ?_)
  obtain ⟨hq_, hw⟩ := hw; subst hw; subst hq_
  refine lv_icmp_ge (tgt := 88) hx hb dX11_lie_30 (by decide) (fun c3 => ?_) (fun c3 => ?_)
  · have hB := if_p hB c3
    refine lv_iload_n hx hb dX11_lie_88 rfl (lv_at hl 3 rfl) ?_
    exact q_iret C hr hlocks hK hP hD hS (Nat.le_of_ble_eq_true rfl) (Nat.le_of_ble_eq_true rfl) dX11_lie_89 (by cases hB; exact ⟨rfl, rfl⟩)
  · have hB := if_n hB c3
    refine lv_aload_n hx hb dX11_lie_33 rfl (lv_at hl 0 rfl) ?_
    refine lv_iload hx hb dX11_lie_34 (lv_at hl 4 rfl) ?_
    refine lv_iload_n hx hb dX11_lie_36 rfl (lv_at hl 1 rfl) ?_
    refine lv_iload_n hx hb dX11_lie_37 rfl (lv_at hl 2 rfl) ?_
    obtain ⟨q_, s4, hc, hB⟩ := bindI_inv hB
    refine q_goiF (va_runV (As := [.int x4, .int x1, .int x2]) (rest := []) C (cr_doesFit hc _) (cwV 3 hts gX11_lie_X11_doesFit rfl rfl rfl (by decide +kernel) ⟨Nat.le_of_ble_eq_true rfl, Nat.le_of_ble_eq_true rfl⟩) (q_preV hK hP (ci := 11) (q0 := 0) rfl rfl rfl (q_preF hN hK hP hD)) rfl rfl hl.1 rfl (lv_room (Nat.le_of_ble_eq_true rfl)) dX11_lie_38 ⟨Nat.le_of_ble_eq_true rfl, Nat.le_of_ble_eq_true rfl⟩) hD hS hA (fun r5 w1 H locs hw hP hD hS => ?_)
    obtain ⟨hq_, hw⟩ := hw; subst hw; subst hq_
    refine lv_if_ne (tgt := 47) hx hb dX11_lie_41 (by decide) (fun c6 => ?_) (fun c6 => ?_)
    · have hB := if_n hB c6
      refine lv_iconst (v := 0) hx hb dX11_lie_47 (by decide) ?_
      refine lv_istore (lv' := [(5, .int 0), (0, .ref h), (1, .int x1), (2, .int x2), (3, .int x3), (4, .int x4)]) hx hb dX11_lie_48 hl (by decide) rfl (fun ls hl => ?_)
      exact br_lie_50L (hk24) fu _ _ _ _ _ _ hB p e s0 m below meth c A E H locs ls hP hD hS (lv_sub hl [1, 2, 3, 4, 5, 0] rfl)
    · have hB := if_p hB c6
      refine lv_goto (tgt := 82) hx hb dX11_lie_44 (by decide) ?_
      exact br_lie_82 (hk24) _ _ _ _ _ hB p e s0 m below meth c A E H locs ls hP hD hS (lv_sub hl [0, 1, 2, 3, 4] rfl)
theorem br_lie_24L {l : Launch} {dC : Nat → ClassId} {dI : Nat → Nat → Nat} {cB cI cJ cZ cS : ClassId} {h : Nat} {a : Nat → Nat} {as : List Value} {r : Int32} {s' : RS} : ∀ (n : Nat) (s : RS) (x1 : Int32) (x2 : Int32) (x3 : Int32) (x4 : Int32), r_lie_24L n s x1 x2 x3 x4 = some (r, s') → BlkI l yX11_lie wsX11_lie ({ frames := 5, cells := 0, slots := 0, locals := 112 }) cX11_lie 6 (some .int) (dC, dI) (tysA cB cI cJ cZ cS) as 24 (mwS cB cI cJ cZ h a s) [(0, .ref h), (1, .int x1), (2, .int x2), (3, .int x3), (4, .int x4)] [] (fun x u => x = r ∧ u = (mwS cB cI cJ cZ h a s')) := by
  intro n
  induction n with
  | zero => intro s x1 x2 x3 x4 hB; exact none_ne hB
  | succ n ih => intro s x1 x2 x3 x4 hB; exact br_lie_24 ih _ _ _ _ _ hB
set_option maxHeartbeats 4000000 in
set_option maxRecDepth 100000 in
theorem br_lie {l : Launch} {dC : Nat → ClassId} {dI : Nat → Nat → Nat} {cB cI cJ cZ cS : ClassId} {h : Nat} {a : Nat → Nat} {as : List Value} {r : Int32} {s' : RS} (s : RS) (x1 : Int32) (x2 : Int32) (hB : r_lie s x1 x2 = some (r, s')) : BlkI l yX11_lie wsX11_lie ({ frames := 5, cells := 0, slots := 0, locals := 112 }) cX11_lie 6 (some .int) (dC, dI) (tysA cB cI cJ cZ cS) as 0 (mwS cB cI cJ cZ h a s) [(0, .ref h), (1, .int x1), (2, .int x2)] [] (fun x u => x = r ∧ u = (mwS cB cI cJ cZ h a s')) := by
  intro p e s0 m below meth c A E H locs ls hP hD hS hl
  obtain ⟨C, hr, hlocks, hA, hK, hN⟩ := id E
  obtain ⟨hx, hb, hml, hown, hts⟩ := id C
  unfold r_lie at hB
  refine lv_aload_n hx hb dX11_lie_0 rfl (lv_at hl 0 rfl) ?_
  refine lv_iload_n hx hb dX11_lie_1 rfl (lv_at hl 1 rfl) ?_
  refine lv_iload_n hx hb dX11_lie_2 rfl (lv_at hl 2 rfl) ?_
  obtain ⟨q_, s1, hc, hB⟩ := bindI_inv hB
  refine q_goiF (va_runV (As := [.int x1, .int x2]) (rest := []) C (cr_isAsked hc _) (cwV 2 hts gX11_lie_X11_isAsked rfl rfl rfl (by decide +kernel) ⟨Nat.le_of_ble_eq_true rfl, Nat.le_of_ble_eq_true rfl⟩) (q_preV hK hP (ci := 11) (q0 := 0) rfl rfl rfl (q_preF hN hK hP hD)) rfl rfl hl.1 rfl (lv_room (Nat.le_of_ble_eq_true rfl)) dX11_lie_3 ⟨Nat.le_of_ble_eq_true rfl, Nat.le_of_ble_eq_true rfl⟩) hD hS hA (fun r2 w1 H locs hw hP hD hS => ?_)
  obtain ⟨hq_, hw⟩ := hw; subst hw; subst hq_
  refine lv_if_ne (tgt := 11) hx hb dX11_lie_6 (by decide) (fun c3 => ?_) (fun c3 => ?_)
  · have hB := if_n hB c3
    refine lv_aload_n hx hb dX11_lie_11 rfl (lv_at hl 0 rfl) ?_
    obtain ⟨s4, hc, hB⟩ := bindP_inv hB
    refine q_govF (va_runV (As := []) (rest := []) C (cr_fillsChances hc _) (cwV 0 hts gX11_lie_X11_fillsChances rfl rfl rfl (by decide +kernel) ⟨Nat.le_of_ble_eq_true rfl, Nat.le_of_ble_eq_true rfl⟩) (q_preV hK hP (ci := 11) (q0 := 0) rfl rfl rfl (q_preF hN hK hP hD)) rfl rfl hl.1 rfl (lv_room (Nat.le_of_ble_eq_true rfl)) dX11_lie_12 ⟨Nat.le_of_ble_eq_true rfl, Nat.le_of_ble_eq_true rfl⟩) hD hS hA (fun w1 H locs hw hP hD hS => ?_)
    subst hw
    refine lv_iconst (v := 1) hx hb dX11_lie_15 (by decide) ?_
    refine lv_iload_n hx hb dX11_lie_16 rfl (lv_at hl 1 rfl) ?_
    refine lv_ishl hx hb dX11_lie_17 ?_
    refine lv_iconst (v := 1) hx hb dX11_lie_18 (by decide) ?_
    refine lv_isub hx hb dX11_lie_19 ?_
    refine lv_istore_n (lv' := [(3, .int ((1 <<< (x1 &&& 31)) - 1)), (0, .ref h), (1, .int x1), (2, .int x2)]) hx hb dX11_lie_20 rfl hl (by decide) rfl (fun ls hl => ?_)
    refine lv_iconst (v := 0) hx hb dX11_lie_21 (by decide) ?_
    refine lv_istore (lv' := [(4, .int 0), (3, .int ((1 <<< (x1 &&& 31)) - 1)), (0, .ref h), (1, .int x1), (2, .int x2)]) hx hb dX11_lie_22 hl (by decide) rfl (fun ls hl => ?_)
    exact br_lie_24L fu _ _ _ _ _ hB p e s0 m below meth c A E H locs ls hP hD hS (lv_sub hl [2, 3, 4, 1, 0] rfl)
  · have hB := if_p hB c3
    refine lv_iconst (v := (-1)) hx hb dX11_lie_9 (by decide) ?_
    exact q_iret C hr hlocks hK hP hD hS (Nat.le_of_ble_eq_true rfl) (Nat.le_of_ble_eq_true rfl) dX11_lie_10 (by cases hB; exact ⟨rfl, rfl⟩)
theorem cr_lie {l : Launch} {dC : Nat → ClassId} {dI : Nat → Nat → Nat} {cB cI cJ cZ cS : ClassId} {h : Nat} {a : Nat → Nat} {r : Int32} {s' : RS} {s : RS} {x1 : Int32} {x2 : Int32} (hB : r_lie s x1 x2 = some (r, s')) : CI l yX11_lie wsX11_lie ({ frames := 5, cells := 0, slots := 0, locals := 112 }) (dC, dI) (tysA cB cI cJ cZ cS) (mwS cB cI cJ cZ h a s) [.ref h, .int x1, .int x2] (fun x u => x = r ∧ u = (mwS cB cI cJ cZ h a s')) :=
  CI_of (cc := cX11_lie) (maxL := 6) (ret := (some .int)) (by decide) rfl (Nat.le_of_ble_eq_true rfl) (br_lie _ _ _ hB)
theorem LX11_worstAt_125 : Cond.fieldLink RX11 125 "GuessFerryModel" "fitBy" "[I" ∈ wsX11_worstAt := by decide +kernel
theorem inX11_worstAt_X11 : ∀ w ∈ u_ws RX11 TX11 58, w ∈ wsX11_worstAt := fun _ h => List.mem_cons_of_mem _ (List.mem_append_right _ h)
set_option maxHeartbeats 4000000 in
set_option maxRecDepth 100000 in
theorem br_worstAt_37 {l : Launch} {dC : Nat → ClassId} {dI : Nat → Nat → Nat} {cB cI cJ cZ cS : ClassId} {h : Nat} {a : Nat → Nat} {as : List Value} {r : Int32} {s' : RS} {k4 : RS → Int32 → Int32 → Int32 → Option (Int32 × RS)} (hk4 : ∀ (s : RS) (x1 : Int32) (x2 : Int32) (x3 : Int32), k4 s x1 x2 x3 = some (r, s') → BlkI l yX11_worstAt wsX11_worstAt ({ frames := 0, cells := 0, slots := 0, locals := 0 }) cX11_worstAt 4 (some .int) (dC, dI) (tysA cB cI cJ cZ cS) as 4 (mwS cB cI cJ cZ h a s) [(0, .ref h), (1, .int x1), (2, .int x2), (3, .int x3)] [] (fun x u => x = r ∧ u = (mwS cB cI cJ cZ h a s'))) (s : RS) (x1 : Int32) (x2 : Int32) (x3 : Int32) (hB : r_worstAt_37 k4 s x1 x2 x3 = some (r, s')) : BlkI l yX11_worstAt wsX11_worstAt ({ frames := 0, cells := 0, slots := 0, locals := 0 }) cX11_worstAt 4 (some .int) (dC, dI) (tysA cB cI cJ cZ cS) as 37 (mwS cB cI cJ cZ h a s) [(0, .ref h), (1, .int x1), (2, .int x2), (3, .int x3)] [] (fun x u => x = r ∧ u = (mwS cB cI cJ cZ h a s')) := by
  intro p e s0 m below meth c A E H locs ls hP hD hS hl
  obtain ⟨C, hr, hlocks, hA, hK, hN⟩ := id E
  obtain ⟨hx, hb, hml, hown, hts⟩ := id C
  unfold r_worstAt_37 at hB
  refine lv_iinc (v := (x3 + 1)) (lv' := [(3, .int (x3 + 1)), (0, .ref h), (1, .int x1), (2, .int x2)]) hx hb dX11_worstAt_37 hl (k := 3) rfl (rfl) (by decide) rfl (fun ls hl => ?_)
  refine lv_goto (tgt := 4) hx hb dX11_worstAt_40 (by decide) ?_
  exact hk4 _ _ _ _ hB p e s0 m below meth c A E H locs ls hP hD hS (lv_sub hl [1, 2, 3, 0] rfl)
set_option maxHeartbeats 4000000 in
set_option maxRecDepth 100000 in
theorem br_worstAt_4 {l : Launch} {dC : Nat → ClassId} {dI : Nat → Nat → Nat} {cB cI cJ cZ cS : ClassId} {h : Nat} {a : Nat → Nat} {as : List Value} {r : Int32} {s' : RS} {k4 : RS → Int32 → Int32 → Int32 → Option (Int32 × RS)} (hk4 : ∀ (s : RS) (x1 : Int32) (x2 : Int32) (x3 : Int32), k4 s x1 x2 x3 = some (r, s') → BlkI l yX11_worstAt wsX11_worstAt ({ frames := 0, cells := 0, slots := 0, locals := 0 }) cX11_worstAt 4 (some .int) (dC, dI) (tysA cB cI cJ cZ cS) as 4 (mwS cB cI cJ cZ h a s) [(0, .ref h), (1, .int x1), (2, .int x2), (3, .int x3)] [] (fun x u => x = r ∧ u = (mwS cB cI cJ cZ h a s'))) (s : RS) (x1 : Int32) (x2 : Int32) (x3 : Int32) (hB : r_worstAt_4 k4 s x1 x2 x3 = some (r, s')) : BlkI l yX11_worstAt wsX11_worstAt ({ frames := 0, cells := 0, slots := 0, locals := 0 }) cX11_worstAt 4 (some .int) (dC, dI) (tysA cB cI cJ cZ cS) as 4 (mwS cB cI cJ cZ h a s) [(0, .ref h), (1, .int x1), (2, .int x2), (3, .int x3)] [] (fun x u => x = r ∧ u = (mwS cB cI cJ cZ h a s')) := by
  intro p e s0 m below meth c A E H locs ls hP hD hS hl
  obtain ⟨C, hr, hlocks, hA, hK, hN⟩ := id E
  obtain ⟨hx, hb, hml, hown, hts⟩ := id C
  unfold r_worstAt_4 at hB
  refine lv_iload_n hx hb dX11_worstAt_4 rfl (lv_at hl 3 rfl) ?_
  refine lv_bipush (v := 6) hx hb dX11_worstAt_5 (by decide) ?_
  refine lv_icmp_ge (tgt := 43) hx hb dX11_worstAt_7 (by decide) (fun c1 => ?_) (fun c1 => ?_)
  · have hB := if_p hB c1
    refine lv_iload_n hx hb dX11_worstAt_43 rfl (lv_at hl 2 rfl) ?_
    exact q_iret C hr hlocks hK hP hD hS (Nat.le_of_ble_eq_true rfl) (Nat.le_of_ble_eq_true rfl) dX11_worstAt_44 (by cases hB; exact ⟨rfl, rfl⟩)
  · have hB := if_n hB c1
    refine lv_aload_n hx hb dX11_worstAt_10 rfl (lv_at hl 0 rfl) ?_
    refine q_get (v := .ref (a 55)) C inX11_worstAt_X11 hK hP 0 rfl rfl 55 (by decide) rfl LX11_worstAt_125 rfl dX11_worstAt_11 ?_
    refine lv_bipush (v := 6) hx hb dX11_worstAt_14 (by decide) ?_
    refine lv_iload_n hx hb dX11_worstAt_16 rfl (lv_at hl 1 rfl) ?_
    refine lv_imul hx hb dX11_worstAt_17 ?_
    refine lv_iload_n hx hb dX11_worstAt_18 rfl (lv_at hl 3 rfl) ?_
    refine lv_iadd hx hb dX11_worstAt_19 ?_
    obtain ⟨g2, hB⟩ := guard_inv hB
    refine q_iald (x := (s.f 55 (Int32.toNatClampNeg ((6 * x1) + x3)))) C hK hP 36 1 rfl rfl (vpb_in g2) dX11_worstAt_20 rfl ?_
    refine lv_iload_n hx hb dX11_worstAt_21 rfl (lv_at hl 2 rfl) ?_
    refine lv_icmp_le (tgt := 37) hx hb dX11_worstAt_22 (by decide) (fun c3 => ?_) (fun c3 => ?_)
    · have hB := if_p hB c3
      exact br_worstAt_37 (hk4) _ _ _ _ hB p e s0 m below meth c A E H locs ls hP hD hS (lv_sub hl [0, 1, 2, 3] rfl)
    · have hB := if_n hB c3
      refine lv_aload_n hx hb dX11_worstAt_25 rfl (lv_at hl 0 rfl) ?_
      refine q_get (v := .ref (a 55)) C inX11_worstAt_X11 hK hP 0 rfl rfl 55 (by decide) rfl LX11_worstAt_125 rfl dX11_worstAt_26 ?_
      refine lv_bipush (v := 6) hx hb dX11_worstAt_29 (by decide) ?_
      refine lv_iload_n hx hb dX11_worstAt_31 rfl (lv_at hl 1 rfl) ?_
      refine lv_imul hx hb dX11_worstAt_32 ?_
      refine lv_iload_n hx hb dX11_worstAt_33 rfl (lv_at hl 3 rfl) ?_
      refine lv_iadd hx hb dX11_worstAt_34 ?_
      obtain ⟨g4, hB⟩ := guard_inv hB
      refine q_iald (x := (s.f 55 (Int32.toNatClampNeg ((6 * x1) + x3)))) C hK hP 36 1 rfl rfl (vpb_in g4) dX11_worstAt_35 rfl ?_
      refine lv_istore_n (lv' := [(2, .int (s.f 55 (Int32.toNatClampNeg ((6 * x1) + x3)))), (0, .ref h), (1, .int x1), (3, .int x3)]) hx hb dX11_worstAt_36 rfl hl (by decide) rfl (fun ls hl => ?_)
      exact br_worstAt_37 (hk4) _ _ _ _ hB p e s0 m below meth c A E H locs ls hP hD hS (lv_sub hl [1, 2, 0, 3] rfl)
theorem br_worstAt_4L {l : Launch} {dC : Nat → ClassId} {dI : Nat → Nat → Nat} {cB cI cJ cZ cS : ClassId} {h : Nat} {a : Nat → Nat} {as : List Value} {r : Int32} {s' : RS} : ∀ (n : Nat) (s : RS) (x1 : Int32) (x2 : Int32) (x3 : Int32), r_worstAt_4L n s x1 x2 x3 = some (r, s') → BlkI l yX11_worstAt wsX11_worstAt ({ frames := 0, cells := 0, slots := 0, locals := 0 }) cX11_worstAt 4 (some .int) (dC, dI) (tysA cB cI cJ cZ cS) as 4 (mwS cB cI cJ cZ h a s) [(0, .ref h), (1, .int x1), (2, .int x2), (3, .int x3)] [] (fun x u => x = r ∧ u = (mwS cB cI cJ cZ h a s')) := by
  intro n
  induction n with
  | zero => intro s x1 x2 x3 hB; exact none_ne hB
  | succ n ih => intro s x1 x2 x3 hB; exact br_worstAt_4 ih _ _ _ _ hB
set_option maxHeartbeats 4000000 in
set_option maxRecDepth 100000 in
theorem br_worstAt {l : Launch} {dC : Nat → ClassId} {dI : Nat → Nat → Nat} {cB cI cJ cZ cS : ClassId} {h : Nat} {a : Nat → Nat} {as : List Value} {r : Int32} {s' : RS} (s : RS) (x1 : Int32) (hB : r_worstAt s x1 = some (r, s')) : BlkI l yX11_worstAt wsX11_worstAt ({ frames := 0, cells := 0, slots := 0, locals := 0 }) cX11_worstAt 4 (some .int) (dC, dI) (tysA cB cI cJ cZ cS) as 0 (mwS cB cI cJ cZ h a s) [(0, .ref h), (1, .int x1)] [] (fun x u => x = r ∧ u = (mwS cB cI cJ cZ h a s')) := by
  intro p e s0 m below meth c A E H locs ls hP hD hS hl
  obtain ⟨C, hr, hlocks, hA, hK, hN⟩ := id E
  obtain ⟨hx, hb, hml, hown, hts⟩ := id C
  unfold r_worstAt at hB
  refine lv_iconst (v := 0) hx hb dX11_worstAt_0 (by decide) ?_
  refine lv_istore_n (lv' := [(2, .int 0), (0, .ref h), (1, .int x1)]) hx hb dX11_worstAt_1 rfl hl (by decide) rfl (fun ls hl => ?_)
  refine lv_iconst (v := 0) hx hb dX11_worstAt_2 (by decide) ?_
  refine lv_istore_n (lv' := [(3, .int 0), (2, .int 0), (0, .ref h), (1, .int x1)]) hx hb dX11_worstAt_3 rfl hl (by decide) rfl (fun ls hl => ?_)
  exact br_worstAt_4L fu _ _ _ _ hB p e s0 m below meth c A E H locs ls hP hD hS (lv_sub hl [2, 3, 1, 0] rfl)
theorem cr_worstAt {l : Launch} {dC : Nat → ClassId} {dI : Nat → Nat → Nat} {cB cI cJ cZ cS : ClassId} {h : Nat} {a : Nat → Nat} {r : Int32} {s' : RS} {s : RS} {x1 : Int32} (hB : r_worstAt s x1 = some (r, s')) : CI l yX11_worstAt wsX11_worstAt ({ frames := 0, cells := 0, slots := 0, locals := 0 }) (dC, dI) (tysA cB cI cJ cZ cS) (mwS cB cI cJ cZ h a s) [.ref h, .int x1] (fun x u => x = r ∧ u = (mwS cB cI cJ cZ h a s')) :=
  CI_of (cc := cX11_worstAt) (maxL := 4) (ret := (some .int)) (by decide) rfl (Nat.le_of_ble_eq_true rfl) (br_worstAt _ _ hB)
theorem LX11_ask_125 : Cond.fieldLink RX11 125 "GuessFerryModel" "fitBy" "[I" ∈ wsX11_ask := by decide +kernel
theorem LX11_ask_215 : Cond.fieldLink RX11 215 "GuessFerryModel" "live" "I" ∈ wsX11_ask := by decide +kernel
theorem LX11_ask_40 : Cond.fieldLink RX11 40 "GuessFerryModel" "waves" "[I" ∈ wsX11_ask := by decide +kernel
theorem inX11_ask_X11 : ∀ w ∈ u_ws RX11 TX11 58, w ∈ wsX11_ask := by decide +kernel
set_option maxHeartbeats 4000000 in
set_option maxRecDepth 100000 in
theorem br_ask_168 {l : Launch} {dC : Nat → ClassId} {dI : Nat → Nat → Nat} {cB cI cJ cZ cS : ClassId} {h : Nat} {a : Nat → Nat} {as : List Value} {r : Int32} {s' : RS} {k126 : RS → Int32 → Int32 → Int32 → Option (Int32 × RS)} (hk126 : ∀ (s : RS) (x3 : Int32) (x4 : Int32) (x5 : Int32), k126 s x3 x4 x5 = some (r, s') → BlkI l yX11_ask wsX11_ask ({ frames := 5, cells := 0, slots := 0, locals := 112 }) cX11_ask 6 (some .int) (dC, dI) (tysA cB cI cJ cZ cS) as 126 (mwS cB cI cJ cZ h a s) [(0, .ref h), (3, .int x3), (4, .int x4), (5, .int x5)] [] (fun x u => x = r ∧ u = (mwS cB cI cJ cZ h a s'))) (s : RS) (x3 : Int32) (x4 : Int32) (x5 : Int32) (hB : r_ask_168 k126 s x3 x4 x5 = some (r, s')) : BlkI l yX11_ask wsX11_ask ({ frames := 5, cells := 0, slots := 0, locals := 112 }) cX11_ask 6 (some .int) (dC, dI) (tysA cB cI cJ cZ cS) as 168 (mwS cB cI cJ cZ h a s) [(0, .ref h), (3, .int x3), (4, .int x4), (5, .int x5)] [] (fun x u => x = r ∧ u = (mwS cB cI cJ cZ h a s')) := by
  intro p e s0 m below meth c A E H locs ls hP hD hS hl
  obtain ⟨C, hr, hlocks, hA, hK, hN⟩ := id E
  obtain ⟨hx, hb, hml, hown, hts⟩ := id C
  unfold r_ask_168 at hB
  refine lv_iinc (v := (x5 + 1)) (lv' := [(5, .int (x5 + 1)), (0, .ref h), (3, .int x3), (4, .int x4)]) hx hb dX11_ask_168 hl (k := 3) rfl (rfl) (by decide) rfl (fun ls hl => ?_)
  refine lv_goto (tgt := 126) hx hb dX11_ask_171 (by decide) ?_
  exact hk126 _ _ _ _ hB p e s0 m below meth c A E H locs ls hP hD hS (lv_sub hl [1, 2, 3, 0] rfl)
set_option maxHeartbeats 4000000 in
set_option maxRecDepth 100000 in
theorem br_ask_164 {l : Launch} {dC : Nat → ClassId} {dI : Nat → Nat → Nat} {cB cI cJ cZ cS : ClassId} {h : Nat} {a : Nat → Nat} {as : List Value} {r : Int32} {s' : RS} {k126 : RS → Int32 → Int32 → Int32 → Option (Int32 × RS)} (hk126 : ∀ (s : RS) (x3 : Int32) (x4 : Int32) (x5 : Int32), k126 s x3 x4 x5 = some (r, s') → BlkI l yX11_ask wsX11_ask ({ frames := 5, cells := 0, slots := 0, locals := 112 }) cX11_ask 6 (some .int) (dC, dI) (tysA cB cI cJ cZ cS) as 126 (mwS cB cI cJ cZ h a s) [(0, .ref h), (3, .int x3), (4, .int x4), (5, .int x5)] [] (fun x u => x = r ∧ u = (mwS cB cI cJ cZ h a s'))) (s : RS) (x3 : Int32) (x5 : Int32) (hB : r_ask_164 k126 s x3 x5 = some (r, s')) : BlkI l yX11_ask wsX11_ask ({ frames := 5, cells := 0, slots := 0, locals := 112 }) cX11_ask 6 (some .int) (dC, dI) (tysA cB cI cJ cZ cS) as 164 (mwS cB cI cJ cZ h a s) [(0, .ref h), (3, .int x3), (5, .int x5)] [] (fun x u => x = r ∧ u = (mwS cB cI cJ cZ h a s')) := by
  intro p e s0 m below meth c A E H locs ls hP hD hS hl
  obtain ⟨C, hr, hlocks, hA, hK, hN⟩ := id E
  obtain ⟨hx, hb, hml, hown, hts⟩ := id C
  unfold r_ask_164 at hB
  refine lv_iload hx hb dX11_ask_164 (lv_at hl 2 rfl) ?_
  refine lv_istore (lv' := [(4, .int x5), (0, .ref h), (3, .int x3), (5, .int x5)]) hx hb dX11_ask_166 hl (by decide) rfl (fun ls hl => ?_)
  exact br_ask_168 (hk126) _ _ _ _ hB p e s0 m below meth c A E H locs ls hP hD hS (lv_sub hl [1, 2, 0, 3] rfl)
set_option maxHeartbeats 4000000 in
set_option maxRecDepth 100000 in
theorem br_ask_126 {l : Launch} {dC : Nat → ClassId} {dI : Nat → Nat → Nat} {cB cI cJ cZ cS : ClassId} {h : Nat} {a : Nat → Nat} {as : List Value} {r : Int32} {s' : RS} {k126 : RS → Int32 → Int32 → Int32 → Option (Int32 × RS)} (hk126 : ∀ (s : RS) (x3 : Int32) (x4 : Int32) (x5 : Int32), k126 s x3 x4 x5 = some (r, s') → BlkI l yX11_ask wsX11_ask ({ frames := 5, cells := 0, slots := 0, locals := 112 }) cX11_ask 6 (some .int) (dC, dI) (tysA cB cI cJ cZ cS) as 126 (mwS cB cI cJ cZ h a s) [(0, .ref h), (3, .int x3), (4, .int x4), (5, .int x5)] [] (fun x u => x = r ∧ u = (mwS cB cI cJ cZ h a s'))) (s : RS) (x3 : Int32) (x4 : Int32) (x5 : Int32) (hB : r_ask_126 k126 s x3 x4 x5 = some (r, s')) : BlkI l yX11_ask wsX11_ask ({ frames := 5, cells := 0, slots := 0, locals := 112 }) cX11_ask 6 (some .int) (dC, dI) (tysA cB cI cJ cZ cS) as 126 (mwS cB cI cJ cZ h a s) [(0, .ref h), (3, .int x3), (4, .int x4), (5, .int x5)] [] (fun x u => x = r ∧ u = (mwS cB cI cJ cZ h a s')) := by
  intro p e s0 m below meth c A E H locs ls hP hD hS hl
  obtain ⟨C, hr, hlocks, hA, hK, hN⟩ := id E
  obtain ⟨hx, hb, hml, hown, hts⟩ := id C
  unfold r_ask_126 at hB
  refine lv_iload hx hb dX11_ask_126 (lv_at hl 3 rfl) ?_
  refine lv_aload_n hx hb dX11_ask_128 rfl (lv_at hl 0 rfl) ?_
  refine q_get (v := .ref (a 20)) C inX11_ask_X11 hK hP 0 rfl rfl 20 (by decide) rfl LX11_ask_40 rfl dX11_ask_129 ?_
  refine lv_aload_n hx hb dX11_ask_132 rfl (lv_at hl 0 rfl) ?_
  refine q_get (v := .int (s.v 18)) C inX11_ask_X11 hK hP 0 rfl rfl 18 (by decide) rfl LX11_ask_215 rfl dX11_ask_133 ?_
  obtain ⟨g1, hB⟩ := guard_inv hB
  refine q_iald (x := (s.f 20 (Int32.toNatClampNeg (s.v 18)))) C hK hP 8 1 rfl rfl (vpb_in g1) dX11_ask_136 rfl ?_
  refine lv_icmp_ge (tgt := 174) hx hb dX11_ask_137 (by decide) (fun c2 => ?_) (fun c2 => ?_)
  · have hB := if_p hB c2
    refine lv_iload hx hb dX11_ask_174 (lv_at hl 2 rfl) ?_
    exact q_iret C hr hlocks hK hP hD hS (Nat.le_of_ble_eq_true rfl) (Nat.le_of_ble_eq_true rfl) dX11_ask_176 (by cases hB; exact ⟨rfl, rfl⟩)
  · have hB := if_n hB c2
    refine lv_iload_n hx hb dX11_ask_140 rfl (lv_at hl 1 rfl) ?_
    refine lv_if_le (tgt := 174) hx hb dX11_ask_141 (by decide) (fun c3 => ?_) (fun c3 => ?_)
    · have hB := if_p hB c3
      refine lv_iload hx hb dX11_ask_174 (lv_at hl 2 rfl) ?_
      exact q_iret C hr hlocks hK hP hD hS (Nat.le_of_ble_eq_true rfl) (Nat.le_of_ble_eq_true rfl) dX11_ask_176 (by cases hB; exact ⟨rfl, rfl⟩)
    · have hB := if_n hB c3
      refine lv_iload hx hb dX11_ask_144 (lv_at hl 2 rfl) ?_
      refine lv_if_lt (tgt := 164) hx hb dX11_ask_146 (by decide) (fun c4 => ?_) (fun c4 => ?_)
      · have hB := if_p hB c4
        exact br_ask_164 (hk126) _ _ _ hB p e s0 m below meth c A E H locs ls hP hD hS (lv_sub hl [0, 1, 3] rfl)
      · have hB := if_n hB c4
        refine lv_aload_n hx hb dX11_ask_149 rfl (lv_at hl 0 rfl) ?_
        refine lv_iload hx hb dX11_ask_150 (lv_at hl 3 rfl) ?_
        obtain ⟨q_, s5, hc, hB⟩ := bindI_inv hB
        refine q_goiF (va_runV (As := [.int x5]) (rest := []) C (cr_worstAt hc _) (cwV 1 hts gX11_ask_X11_worstAt rfl rfl rfl (by decide +kernel) ⟨Nat.le_of_ble_eq_true rfl, Nat.le_of_ble_eq_true rfl⟩) (q_preV hK hP (ci := 11) (q0 := 0) rfl rfl rfl (q_preF hN hK hP hD)) rfl rfl hl.1 rfl (lv_room (Nat.le_of_ble_eq_true rfl)) dX11_ask_152 ⟨Nat.le_of_ble_eq_true rfl, Nat.le_of_ble_eq_true rfl⟩) hD hS hA (fun r6 w1 H locs hw hP hD hS => ?_)
        obtain ⟨hq_, hw⟩ := hw; subst hw; subst hq_
        refine lv_aload_n hx hb dX11_ask_155 rfl (lv_at hl 0 rfl) ?_
        refine lv_iload hx hb dX11_ask_156 (lv_at hl 2 rfl) ?_
        obtain ⟨q_, s7, hc, hB⟩ := bindI_inv hB
        refine q_goiF (va_runV (As := [.int x4]) (rest := [.int r6]) C (cr_worstAt hc _) (cwV 1 hts gX11_ask_X11_worstAt rfl rfl rfl (by decide +kernel) ⟨Nat.le_of_ble_eq_true rfl, Nat.le_of_ble_eq_true rfl⟩) (q_preV hK hP (ci := 11) (q0 := 0) rfl rfl rfl (q_preF hN hK hP hD)) rfl rfl hl.1 rfl (lv_room (Nat.le_of_ble_eq_true rfl)) dX11_ask_158 ⟨Nat.le_of_ble_eq_true rfl, Nat.le_of_ble_eq_true rfl⟩) hD hS hA (fun r8 w1 H locs hw hP hD hS => ?_)
        obtain ⟨hq_, hw⟩ := hw; subst hw; subst hq_
        refine lv_icmp_ge (tgt := 168) hx hb dX11_ask_161 (by decide) (fun c9 => ?_) (fun c9 => ?_)
        · have hB := if_p hB c9
          exact br_ask_168 (hk126) _ _ _ _ hB p e s0 m below meth c A E H locs ls hP hD hS (lv_sub hl [0, 1, 2, 3] rfl)
        · have hB := if_n hB c9
          exact br_ask_164 (hk126) _ _ _ hB p e s0 m below meth c A E H locs ls hP hD hS (lv_sub hl [0, 1, 3] rfl)
theorem br_ask_126L {l : Launch} {dC : Nat → ClassId} {dI : Nat → Nat → Nat} {cB cI cJ cZ cS : ClassId} {h : Nat} {a : Nat → Nat} {as : List Value} {r : Int32} {s' : RS} : ∀ (n : Nat) (s : RS) (x3 : Int32) (x4 : Int32) (x5 : Int32), r_ask_126L n s x3 x4 x5 = some (r, s') → BlkI l yX11_ask wsX11_ask ({ frames := 5, cells := 0, slots := 0, locals := 112 }) cX11_ask 6 (some .int) (dC, dI) (tysA cB cI cJ cZ cS) as 126 (mwS cB cI cJ cZ h a s) [(0, .ref h), (3, .int x3), (4, .int x4), (5, .int x5)] [] (fun x u => x = r ∧ u = (mwS cB cI cJ cZ h a s')) := by
  intro n
  induction n with
  | zero => intro s x3 x4 x5 hB; exact none_ne hB
  | succ n ih => intro s x3 x4 x5 hB; exact br_ask_126 ih _ _ _ _ hB
set_option maxHeartbeats 4000000 in
set_option maxRecDepth 100000 in
theorem br_ask_113 {l : Launch} {dC : Nat → ClassId} {dI : Nat → Nat → Nat} {cB cI cJ cZ cS : ClassId} {h : Nat} {a : Nat → Nat} {as : List Value} {r : Int32} {s' : RS} {k41 : RS → Int32 → Int32 → Int32 → Int32 → Option (Int32 × RS)} (hk41 : ∀ (s : RS) (x1 : Int32) (x2 : Int32) (x3 : Int32) (x4 : Int32), k41 s x1 x2 x3 x4 = some (r, s') → BlkI l yX11_ask wsX11_ask ({ frames := 5, cells := 0, slots := 0, locals := 112 }) cX11_ask 6 (some .int) (dC, dI) (tysA cB cI cJ cZ cS) as 41 (mwS cB cI cJ cZ h a s) [(0, .ref h), (1, .int x1), (2, .int x2), (3, .int x3), (4, .int x4)] [] (fun x u => x = r ∧ u = (mwS cB cI cJ cZ h a s'))) (s : RS) (x1 : Int32) (x2 : Int32) (x3 : Int32) (x4 : Int32) (hB : r_ask_113 k41 s x1 x2 x3 x4 = some (r, s')) : BlkI l yX11_ask wsX11_ask ({ frames := 5, cells := 0, slots := 0, locals := 112 }) cX11_ask 6 (some .int) (dC, dI) (tysA cB cI cJ cZ cS) as 113 (mwS cB cI cJ cZ h a s) [(0, .ref h), (1, .int x1), (2, .int x2), (3, .int x3), (4, .int x4)] [] (fun x u => x = r ∧ u = (mwS cB cI cJ cZ h a s')) := by
  intro p e s0 m below meth c A E H locs ls hP hD hS hl
  obtain ⟨C, hr, hlocks, hA, hK, hN⟩ := id E
  obtain ⟨hx, hb, hml, hown, hts⟩ := id C
  unfold r_ask_113 at hB
  refine lv_iinc (v := (x4 + 1)) (lv' := [(4, .int (x4 + 1)), (0, .ref h), (1, .int x1), (2, .int x2), (3, .int x3)]) hx hb dX11_ask_113 hl (k := 4) rfl (rfl) (by decide) rfl (fun ls hl => ?_)
  refine lv_goto (tgt := 41) hx hb dX11_ask_116 (by decide) ?_
  exact hk41 _ _ _ _ _ hB p e s0 m below meth c A E H locs ls hP hD hS (lv_sub hl [1, 2, 3, 4, 0] rfl)
set_option maxHeartbeats 4000000 in
set_option maxRecDepth 100000 in
theorem br_ask_70 {l : Launch} {dC : Nat → ClassId} {dI : Nat → Nat → Nat} {cB cI cJ cZ cS : ClassId} {h : Nat} {a : Nat → Nat} {as : List Value} {r : Int32} {s' : RS} {k41 : RS → Int32 → Int32 → Int32 → Int32 → Option (Int32 × RS)} {k70 : RS → Int32 → Int32 → Int32 → Int32 → Int32 → Option (Int32 × RS)} (hk41 : ∀ (s : RS) (x1 : Int32) (x2 : Int32) (x3 : Int32) (x4 : Int32), k41 s x1 x2 x3 x4 = some (r, s') → BlkI l yX11_ask wsX11_ask ({ frames := 5, cells := 0, slots := 0, locals := 112 }) cX11_ask 6 (some .int) (dC, dI) (tysA cB cI cJ cZ cS) as 41 (mwS cB cI cJ cZ h a s) [(0, .ref h), (1, .int x1), (2, .int x2), (3, .int x3), (4, .int x4)] [] (fun x u => x = r ∧ u = (mwS cB cI cJ cZ h a s'))) (hk70 : ∀ (s : RS) (x1 : Int32) (x2 : Int32) (x3 : Int32) (x4 : Int32) (x5 : Int32), k70 s x1 x2 x3 x4 x5 = some (r, s') → BlkI l yX11_ask wsX11_ask ({ frames := 5, cells := 0, slots := 0, locals := 112 }) cX11_ask 6 (some .int) (dC, dI) (tysA cB cI cJ cZ cS) as 70 (mwS cB cI cJ cZ h a s) [(0, .ref h), (1, .int x1), (2, .int x2), (3, .int x3), (4, .int x4), (5, .int x5)] [] (fun x u => x = r ∧ u = (mwS cB cI cJ cZ h a s'))) (s : RS) (x1 : Int32) (x2 : Int32) (x3 : Int32) (x4 : Int32) (x5 : Int32) (hB : r_ask_70 k41 k70 s x1 x2 x3 x4 x5 = some (r, s')) : BlkI l yX11_ask wsX11_ask ({ frames := 5, cells := 0, slots := 0, locals := 112 }) cX11_ask 6 (some .int) (dC, dI) (tysA cB cI cJ cZ cS) as 70 (mwS cB cI cJ cZ h a s) [(0, .ref h), (1, .int x1), (2, .int x2), (3, .int x3), (4, .int x4), (5, .int x5)] [] (fun x u => x = r ∧ u = (mwS cB cI cJ cZ h a s')) := by
  intro p e s0 m below meth c A E H locs ls hP hD hS hl
  obtain ⟨C, hr, hlocks, hA, hK, hN⟩ := id E
  obtain ⟨hx, hb, hml, hown, hts⟩ := id C
  unfold r_ask_70 at hB
  refine lv_iload hx hb dX11_ask_70 (lv_at hl 5 rfl) ?_
  refine lv_aload_n hx hb dX11_ask_72 rfl (lv_at hl 0 rfl) ?_
  refine q_get (v := .ref (a 20)) C inX11_ask_X11 hK hP 0 rfl rfl 20 (by decide) rfl LX11_ask_40 rfl dX11_ask_73 ?_
  refine lv_aload_n hx hb dX11_ask_76 rfl (lv_at hl 0 rfl) ?_
  refine q_get (v := .int (s.v 18)) C inX11_ask_X11 hK hP 0 rfl rfl 18 (by decide) rfl LX11_ask_215 rfl dX11_ask_77 ?_
  obtain ⟨g1, hB⟩ := guard_inv hB
  refine q_iald (x := (s.f 20 (Int32.toNatClampNeg (s.v 18)))) C hK hP 8 1 rfl rfl (vpb_in g1) dX11_ask_80 rfl ?_
  refine lv_icmp_ge (tgt := 113) hx hb dX11_ask_81 (by decide) (fun c2 => ?_) (fun c2 => ?_)
  · have hB := if_p hB c2
    exact br_ask_113 (hk41) _ _ _ _ _ hB p e s0 m below meth c A E H locs ls hP hD hS (lv_sub hl [0, 1, 2, 3, 4] rfl)
  · have hB := if_n hB c2
    refine lv_aload_n hx hb dX11_ask_84 rfl (lv_at hl 0 rfl) ?_
    refine q_get (v := .ref (a 55)) C inX11_ask_X11 hK hP 0 rfl rfl 55 (by decide) rfl LX11_ask_125 rfl dX11_ask_85 ?_
    refine lv_bipush (v := 6) hx hb dX11_ask_88 (by decide) ?_
    refine lv_iload hx hb dX11_ask_90 (lv_at hl 5 rfl) ?_
    refine lv_imul hx hb dX11_ask_92 ?_
    refine lv_aload_n hx hb dX11_ask_93 rfl (lv_at hl 0 rfl) ?_
    refine lv_iload hx hb dX11_ask_94 (lv_at hl 4 rfl) ?_
    refine lv_iload hx hb dX11_ask_96 (lv_at hl 5 rfl) ?_
    obtain ⟨q_, s3, hc, hB⟩ := bindI_inv hB
    refine q_goiF (va_runV (As := [.int x4, .int x5]) (rest := [.int (6 * x5), .ref (a 55)]) C (cr_thingAt hc _) (cwV 2 hts gX11_ask_X11_thingAt rfl rfl rfl (by decide +kernel) ⟨Nat.le_of_ble_eq_true rfl, Nat.le_of_ble_eq_true rfl⟩) (q_preV hK hP (ci := 11) (q0 := 0) rfl rfl rfl (q_preF hN hK hP hD)) rfl rfl hl.1 rfl (lv_room (Nat.le_of_ble_eq_true rfl)) dX11_ask_98 ⟨Nat.le_of_ble_eq_true rfl, Nat.le_of_ble_eq_true rfl⟩) hD hS hA (fun r4 w1 H locs hw hP hD hS => ?_)
    obtain ⟨hq_, hw⟩ := hw; subst hw; subst hq_
    refine lv_iadd hx hb dX11_ask_101 ?_
    refine lv_dup2_11 hx hb dX11_ask_102 rfl rfl ?_
    obtain ⟨g5, hB⟩ := guard_inv hB
    refine q_iald (x := (s3.f 55 (Int32.toNatClampNeg ((6 * x5) + r4)))) C hK hP 36 1 rfl rfl (vpb_in g5) dX11_ask_103 rfl ?_
    refine lv_iconst (v := 1) hx hb dX11_ask_104 (by decide) ?_
    refine lv_iadd hx hb dX11_ask_105 ?_
    obtain ⟨g6, hB⟩ := guard_inv hB
    obtain ⟨s7, hs8, hB⟩ := letS_inv hB
    refine q_iast (f2 := (upd (s3.f 55) (Int32.toNatClampNeg ((6 * x5) + r4)) ((s3.f 55 (Int32.toNatClampNeg ((6 * x5) + r4))) + 1))) (w2 := (mwS cB cI cJ cZ h a s7)) C hK hP hD hS 36 1 rfl rfl (vpb_in g6) dX11_ask_106 rfl (mwS_f55 hs8) (fun H locs hP hD hS => ?_)
    refine lv_iinc (v := (x5 + 1)) (lv' := [(5, .int (x5 + 1)), (0, .ref h), (1, .int x1), (2, .int x2), (3, .int x3), (4, .int x4)]) hx hb dX11_ask_107 hl (k := 5) rfl (rfl) (by decide) rfl (fun ls hl => ?_)
    refine lv_goto (tgt := 70) hx hb dX11_ask_110 (by decide) ?_
    exact hk70 _ _ _ _ _ _ hB p e s0 m below meth c A E H locs ls hP hD hS (lv_sub hl [1, 2, 3, 4, 5, 0] rfl)
theorem br_ask_70L {l : Launch} {dC : Nat → ClassId} {dI : Nat → Nat → Nat} {cB cI cJ cZ cS : ClassId} {h : Nat} {a : Nat → Nat} {as : List Value} {r : Int32} {s' : RS} {k41 : RS → Int32 → Int32 → Int32 → Int32 → Option (Int32 × RS)} (hk41 : ∀ (s : RS) (x1 : Int32) (x2 : Int32) (x3 : Int32) (x4 : Int32), k41 s x1 x2 x3 x4 = some (r, s') → BlkI l yX11_ask wsX11_ask ({ frames := 5, cells := 0, slots := 0, locals := 112 }) cX11_ask 6 (some .int) (dC, dI) (tysA cB cI cJ cZ cS) as 41 (mwS cB cI cJ cZ h a s) [(0, .ref h), (1, .int x1), (2, .int x2), (3, .int x3), (4, .int x4)] [] (fun x u => x = r ∧ u = (mwS cB cI cJ cZ h a s'))) : ∀ (n : Nat) (s : RS) (x1 : Int32) (x2 : Int32) (x3 : Int32) (x4 : Int32) (x5 : Int32), r_ask_70L k41 n s x1 x2 x3 x4 x5 = some (r, s') → BlkI l yX11_ask wsX11_ask ({ frames := 5, cells := 0, slots := 0, locals := 112 }) cX11_ask 6 (some .int) (dC, dI) (tysA cB cI cJ cZ cS) as 70 (mwS cB cI cJ cZ h a s) [(0, .ref h), (1, .int x1), (2, .int x2), (3, .int x3), (4, .int x4), (5, .int x5)] [] (fun x u => x = r ∧ u = (mwS cB cI cJ cZ h a s')) := by
  intro n
  induction n with
  | zero => intro s x1 x2 x3 x4 x5 hB; exact none_ne hB
  | succ n ih => intro s x1 x2 x3 x4 x5 hB; exact br_ask_70 hk41 ih _ _ _ _ _ _ hB
set_option maxHeartbeats 4000000 in
set_option maxRecDepth 100000 in
theorem br_ask_41 {l : Launch} {dC : Nat → ClassId} {dI : Nat → Nat → Nat} {cB cI cJ cZ cS : ClassId} {h : Nat} {a : Nat → Nat} {as : List Value} {r : Int32} {s' : RS} {k41 : RS → Int32 → Int32 → Int32 → Int32 → Option (Int32 × RS)} (hk41 : ∀ (s : RS) (x1 : Int32) (x2 : Int32) (x3 : Int32) (x4 : Int32), k41 s x1 x2 x3 x4 = some (r, s') → BlkI l yX11_ask wsX11_ask ({ frames := 5, cells := 0, slots := 0, locals := 112 }) cX11_ask 6 (some .int) (dC, dI) (tysA cB cI cJ cZ cS) as 41 (mwS cB cI cJ cZ h a s) [(0, .ref h), (1, .int x1), (2, .int x2), (3, .int x3), (4, .int x4)] [] (fun x u => x = r ∧ u = (mwS cB cI cJ cZ h a s'))) (s : RS) (x1 : Int32) (x2 : Int32) (x3 : Int32) (x4 : Int32) (hB : r_ask_41 k41 s x1 x2 x3 x4 = some (r, s')) : BlkI l yX11_ask wsX11_ask ({ frames := 5, cells := 0, slots := 0, locals := 112 }) cX11_ask 6 (some .int) (dC, dI) (tysA cB cI cJ cZ cS) as 41 (mwS cB cI cJ cZ h a s) [(0, .ref h), (1, .int x1), (2, .int x2), (3, .int x3), (4, .int x4)] [] (fun x u => x = r ∧ u = (mwS cB cI cJ cZ h a s')) := by
  intro p e s0 m below meth c A E H locs ls hP hD hS hl
  obtain ⟨C, hr, hlocks, hA, hK, hN⟩ := id E
  obtain ⟨hx, hb, hml, hown, hts⟩ := id C
  unfold r_ask_41 at hB
  refine lv_iload hx hb dX11_ask_41 (lv_at hl 4 rfl) ?_
  refine lv_aload_n hx hb dX11_ask_43 rfl (lv_at hl 0 rfl) ?_
  obtain ⟨q_, s1, hc, hB⟩ := bindI_inv hB
  refine q_goiF (va_runV (As := []) (rest := [.int x4]) C (cr_guesses hc _) (cwV 0 hts gX11_ask_X11_guesses rfl rfl rfl (by decide +kernel) ⟨Nat.le_of_ble_eq_true rfl, Nat.le_of_ble_eq_true rfl⟩) (q_preV hK hP (ci := 11) (q0 := 0) rfl rfl rfl (q_preF hN hK hP hD)) rfl rfl hl.1 rfl (lv_room (Nat.le_of_ble_eq_true rfl)) dX11_ask_44 ⟨Nat.le_of_ble_eq_true rfl, Nat.le_of_ble_eq_true rfl⟩) hD hS hA (fun r2 w1 H locs hw hP hD hS => ?_)
  obtain ⟨hq_, hw⟩ := hw; subst hw; subst hq_
  refine lv_icmp_ge (tgt := 119) hx hb dX11_ask_47 (by decide) (fun c3 => ?_) (fun c3 => ?_)
  · have hB := if_p hB c3
    refine lv_bipush (v := (-2)) hx hb dX11_ask_119 (by decide) ?_
    refine lv_istore (lv' := [(4, .int (-2)), (0, .ref h), (1, .int x1), (2, .int x2), (3, .int x3)]) hx hb dX11_ask_121 hl (by decide) rfl (fun ls hl => ?_)
    refine lv_iconst (v := 0) hx hb dX11_ask_123 (by decide) ?_
    refine lv_istore (lv' := [(5, .int 0), (4, .int (-2)), (0, .ref h), (1, .int x1), (2, .int x2), (3, .int x3)]) hx hb dX11_ask_124 hl (by decide) rfl (fun ls hl => ?_)
    exact br_ask_126L fu _ _ _ _ hB p e s0 m below meth c A E H locs ls hP hD hS (lv_sub hl [2, 5, 1, 0] rfl)
  · have hB := if_n hB c3
    refine lv_aload_n hx hb dX11_ask_50 rfl (lv_at hl 0 rfl) ?_
    refine lv_iload hx hb dX11_ask_51 (lv_at hl 4 rfl) ?_
    refine lv_iload_n hx hb dX11_ask_53 rfl (lv_at hl 1 rfl) ?_
    refine lv_iload_n hx hb dX11_ask_54 rfl (lv_at hl 2 rfl) ?_
    obtain ⟨q_, s4, hc, hB⟩ := bindI_inv hB
    refine q_goiF (va_runV (As := [.int x4, .int x1, .int x2]) (rest := []) C (cr_doesFit hc _) (cwV 3 hts gX11_ask_X11_doesFit rfl rfl rfl (by decide +kernel) ⟨Nat.le_of_ble_eq_true rfl, Nat.le_of_ble_eq_true rfl⟩) (q_preV hK hP (ci := 11) (q0 := 0) rfl rfl rfl (q_preF hN hK hP hD)) rfl rfl hl.1 rfl (lv_room (Nat.le_of_ble_eq_true rfl)) dX11_ask_55 ⟨Nat.le_of_ble_eq_true rfl, Nat.le_of_ble_eq_true rfl⟩) hD hS hA (fun r5 w1 H locs hw hP hD hS => ?_)
    obtain ⟨hq_, hw⟩ := hw; subst hw; subst hq_
    refine lv_if_ne (tgt := 64) hx hb dX11_ask_58 (by decide) (fun c6 => ?_) (fun c6 => ?_)
    · have hB := if_n hB c6
      refine lv_iinc (v := (x3 + 1)) (lv' := [(3, .int (x3 + 1)), (0, .ref h), (1, .int x1), (2, .int x2), (4, .int x4)]) hx hb dX11_ask_64 hl (k := 3) rfl (rfl) (by decide) rfl (fun ls hl => ?_)
      refine lv_iconst (v := 0) hx hb dX11_ask_67 (by decide) ?_
      refine lv_istore (lv' := [(5, .int 0), (3, .int (x3 + 1)), (0, .ref h), (1, .int x1), (2, .int x2), (4, .int x4)]) hx hb dX11_ask_68 hl (by decide) rfl (fun ls hl => ?_)
      exact br_ask_70L (hk41) fu _ _ _ _ _ _ hB p e s0 m below meth c A E H locs ls hP hD hS (lv_sub hl [2, 3, 4, 1, 5, 0] rfl)
    · have hB := if_p hB c6
      refine lv_goto (tgt := 113) hx hb dX11_ask_61 (by decide) ?_
      exact br_ask_113 (hk41) _ _ _ _ _ hB p e s0 m below meth c A E H locs ls hP hD hS (lv_sub hl [0, 1, 2, 3, 4] rfl)
theorem br_ask_41L {l : Launch} {dC : Nat → ClassId} {dI : Nat → Nat → Nat} {cB cI cJ cZ cS : ClassId} {h : Nat} {a : Nat → Nat} {as : List Value} {r : Int32} {s' : RS} : ∀ (n : Nat) (s : RS) (x1 : Int32) (x2 : Int32) (x3 : Int32) (x4 : Int32), r_ask_41L n s x1 x2 x3 x4 = some (r, s') → BlkI l yX11_ask wsX11_ask ({ frames := 5, cells := 0, slots := 0, locals := 112 }) cX11_ask 6 (some .int) (dC, dI) (tysA cB cI cJ cZ cS) as 41 (mwS cB cI cJ cZ h a s) [(0, .ref h), (1, .int x1), (2, .int x2), (3, .int x3), (4, .int x4)] [] (fun x u => x = r ∧ u = (mwS cB cI cJ cZ h a s')) := by
  intro n
  induction n with
  | zero => intro s x1 x2 x3 x4 hB; exact none_ne hB
  | succ n ih => intro s x1 x2 x3 x4 hB; exact br_ask_41 ih _ _ _ _ _ hB
set_option maxHeartbeats 4000000 in
set_option maxRecDepth 100000 in
theorem br_ask_17 {l : Launch} {dC : Nat → ClassId} {dI : Nat → Nat → Nat} {cB cI cJ cZ cS : ClassId} {h : Nat} {a : Nat → Nat} {as : List Value} {r : Int32} {s' : RS} {k17 : RS → Int32 → Int32 → Int32 → Option (Int32 × RS)} (hk17 : ∀ (s : RS) (x1 : Int32) (x2 : Int32) (x3 : Int32), k17 s x1 x2 x3 = some (r, s') → BlkI l yX11_ask wsX11_ask ({ frames := 5, cells := 0, slots := 0, locals := 112 }) cX11_ask 6 (some .int) (dC, dI) (tysA cB cI cJ cZ cS) as 17 (mwS cB cI cJ cZ h a s) [(0, .ref h), (1, .int x1), (2, .int x2), (3, .int x3)] [] (fun x u => x = r ∧ u = (mwS cB cI cJ cZ h a s'))) (s : RS) (x1 : Int32) (x2 : Int32) (x3 : Int32) (hB : r_ask_17 k17 s x1 x2 x3 = some (r, s')) : BlkI l yX11_ask wsX11_ask ({ frames := 5, cells := 0, slots := 0, locals := 112 }) cX11_ask 6 (some .int) (dC, dI) (tysA cB cI cJ cZ cS) as 17 (mwS cB cI cJ cZ h a s) [(0, .ref h), (1, .int x1), (2, .int x2), (3, .int x3)] [] (fun x u => x = r ∧ u = (mwS cB cI cJ cZ h a s')) := by
  intro p e s0 m below meth c A E H locs ls hP hD hS hl
  obtain ⟨C, hr, hlocks, hA, hK, hN⟩ := id E
  obtain ⟨hx, hb, hml, hown, hts⟩ := id C
  unfold r_ask_17 at hB
  refine lv_iload_n hx hb dX11_ask_17 rfl (lv_at hl 3 rfl) ?_
  refine lv_bipush (v := 30) hx hb dX11_ask_18 (by decide) ?_
  refine lv_icmp_ge (tgt := 36) hx hb dX11_ask_20 (by decide) (fun c1 => ?_) (fun c1 => ?_)
  · have hB := if_p hB c1
    refine lv_iconst (v := 0) hx hb dX11_ask_36 (by decide) ?_
    refine lv_istore_n (lv' := [(3, .int 0), (0, .ref h), (1, .int x1), (2, .int x2)]) hx hb dX11_ask_37 rfl hl (by decide) rfl (fun ls hl => ?_)
    refine lv_iconst (v := 0) hx hb dX11_ask_38 (by decide) ?_
    refine lv_istore (lv' := [(4, .int 0), (3, .int 0), (0, .ref h), (1, .int x1), (2, .int x2)]) hx hb dX11_ask_39 hl (by decide) rfl (fun ls hl => ?_)
    exact br_ask_41L fu _ _ _ _ _ hB p e s0 m below meth c A E H locs ls hP hD hS (lv_sub hl [2, 3, 4, 1, 0] rfl)
  · have hB := if_n hB c1
    refine lv_aload_n hx hb dX11_ask_23 rfl (lv_at hl 0 rfl) ?_
    refine q_get (v := .ref (a 55)) C inX11_ask_X11 hK hP 0 rfl rfl 55 (by decide) rfl LX11_ask_125 rfl dX11_ask_24 ?_
    refine lv_iload_n hx hb dX11_ask_27 rfl (lv_at hl 3 rfl) ?_
    refine lv_iconst (v := 0) hx hb dX11_ask_28 (by decide) ?_
    obtain ⟨g2, hB⟩ := guard_inv hB
    obtain ⟨s3, hs4, hB⟩ := letS_inv hB
    refine q_iast (f2 := (upd (s.f 55) (Int32.toNatClampNeg x3) 0)) (w2 := (mwS cB cI cJ cZ h a s3)) C hK hP hD hS 36 1 rfl rfl (vpb_in g2) dX11_ask_29 rfl (mwS_f55 hs4) (fun H locs hP hD hS => ?_)
    refine lv_iinc (v := (x3 + 1)) (lv' := [(3, .int (x3 + 1)), (0, .ref h), (1, .int x1), (2, .int x2)]) hx hb dX11_ask_30 hl (k := 3) rfl (rfl) (by decide) rfl (fun ls hl => ?_)
    refine lv_goto (tgt := 17) hx hb dX11_ask_33 (by decide) ?_
    exact hk17 _ _ _ _ hB p e s0 m below meth c A E H locs ls hP hD hS (lv_sub hl [1, 2, 3, 0] rfl)
theorem br_ask_17L {l : Launch} {dC : Nat → ClassId} {dI : Nat → Nat → Nat} {cB cI cJ cZ cS : ClassId} {h : Nat} {a : Nat → Nat} {as : List Value} {r : Int32} {s' : RS} : ∀ (n : Nat) (s : RS) (x1 : Int32) (x2 : Int32) (x3 : Int32), r_ask_17L n s x1 x2 x3 = some (r, s') → BlkI l yX11_ask wsX11_ask ({ frames := 5, cells := 0, slots := 0, locals := 112 }) cX11_ask 6 (some .int) (dC, dI) (tysA cB cI cJ cZ cS) as 17 (mwS cB cI cJ cZ h a s) [(0, .ref h), (1, .int x1), (2, .int x2), (3, .int x3)] [] (fun x u => x = r ∧ u = (mwS cB cI cJ cZ h a s')) := by
  intro n
  induction n with
  | zero => intro s x1 x2 x3 hB; exact none_ne hB
  | succ n ih => intro s x1 x2 x3 hB; exact br_ask_17 ih _ _ _ _ hB
set_option maxHeartbeats 4000000 in
set_option maxRecDepth 100000 in
theorem br_ask {l : Launch} {dC : Nat → ClassId} {dI : Nat → Nat → Nat} {cB cI cJ cZ cS : ClassId} {h : Nat} {a : Nat → Nat} {as : List Value} {r : Int32} {s' : RS} (s : RS) (x1 : Int32) (x2 : Int32) (hB : r_ask s x1 x2 = some (r, s')) : BlkI l yX11_ask wsX11_ask ({ frames := 5, cells := 0, slots := 0, locals := 112 }) cX11_ask 6 (some .int) (dC, dI) (tysA cB cI cJ cZ cS) as 0 (mwS cB cI cJ cZ h a s) [(0, .ref h), (1, .int x1), (2, .int x2)] [] (fun x u => x = r ∧ u = (mwS cB cI cJ cZ h a s')) := by
  intro p e s0 m below meth c A E H locs ls hP hD hS hl
  obtain ⟨C, hr, hlocks, hA, hK, hN⟩ := id E
  obtain ⟨hx, hb, hml, hown, hts⟩ := id C
  unfold r_ask at hB
  refine lv_aload_n hx hb dX11_ask_0 rfl (lv_at hl 0 rfl) ?_
  refine lv_iload_n hx hb dX11_ask_1 rfl (lv_at hl 1 rfl) ?_
  refine lv_iload_n hx hb dX11_ask_2 rfl (lv_at hl 2 rfl) ?_
  obtain ⟨q_, s1, hc, hB⟩ := bindI_inv hB
  refine q_goiF (va_runV (As := [.int x1, .int x2]) (rest := []) C (cr_isAsked hc _) (cwV 2 hts gX11_ask_X11_isAsked rfl rfl rfl (by decide +kernel) ⟨Nat.le_of_ble_eq_true rfl, Nat.le_of_ble_eq_true rfl⟩) (q_preV hK hP (ci := 11) (q0 := 0) rfl rfl rfl (q_preF hN hK hP hD)) rfl rfl hl.1 rfl (lv_room (Nat.le_of_ble_eq_true rfl)) dX11_ask_3 ⟨Nat.le_of_ble_eq_true rfl, Nat.le_of_ble_eq_true rfl⟩) hD hS hA (fun r2 w1 H locs hw hP hD hS => ?_)
  obtain ⟨hq_, hw⟩ := hw; subst hw; subst hq_
  refine lv_if_ne (tgt := 11) hx hb dX11_ask_6 (by decide) (fun c3 => ?_) (fun c3 => ?_)
  · have hB := if_n hB c3
    refine lv_aload_n hx hb dX11_ask_11 rfl (lv_at hl 0 rfl) ?_
    obtain ⟨s4, hc, hB⟩ := bindP_inv hB
    refine q_govF (va_runV (As := []) (rest := []) C (cr_fillsChances hc _) (cwV 0 hts gX11_ask_X11_fillsChances rfl rfl rfl (by decide +kernel) ⟨Nat.le_of_ble_eq_true rfl, Nat.le_of_ble_eq_true rfl⟩) (q_preV hK hP (ci := 11) (q0 := 0) rfl rfl rfl (q_preF hN hK hP hD)) rfl rfl hl.1 rfl (lv_room (Nat.le_of_ble_eq_true rfl)) dX11_ask_12 ⟨Nat.le_of_ble_eq_true rfl, Nat.le_of_ble_eq_true rfl⟩) hD hS hA (fun w1 H locs hw hP hD hS => ?_)
    subst hw
    refine lv_iconst (v := 0) hx hb dX11_ask_15 (by decide) ?_
    refine lv_istore_n (lv' := [(3, .int 0), (0, .ref h), (1, .int x1), (2, .int x2)]) hx hb dX11_ask_16 rfl hl (by decide) rfl (fun ls hl => ?_)
    exact br_ask_17L fu _ _ _ _ hB p e s0 m below meth c A E H locs ls hP hD hS (lv_sub hl [1, 2, 3, 0] rfl)
  · have hB := if_p hB c3
    refine lv_iconst (v := (-1)) hx hb dX11_ask_9 (by decide) ?_
    exact q_iret C hr hlocks hK hP hD hS (Nat.le_of_ble_eq_true rfl) (Nat.le_of_ble_eq_true rfl) dX11_ask_10 (by cases hB; exact ⟨rfl, rfl⟩)
theorem cr_ask {l : Launch} {dC : Nat → ClassId} {dI : Nat → Nat → Nat} {cB cI cJ cZ cS : ClassId} {h : Nat} {a : Nat → Nat} {r : Int32} {s' : RS} {s : RS} {x1 : Int32} {x2 : Int32} (hB : r_ask s x1 x2 = some (r, s')) : CI l yX11_ask wsX11_ask ({ frames := 5, cells := 0, slots := 0, locals := 112 }) (dC, dI) (tysA cB cI cJ cZ cS) (mwS cB cI cJ cZ h a s) [.ref h, .int x1, .int x2] (fun x u => x = r ∧ u = (mwS cB cI cJ cZ h a s')) :=
  CI_of (cc := cX11_ask) (maxL := 6) (ret := (some .int)) (by decide) rfl (Nat.le_of_ble_eq_true rfl) (br_ask _ _ _ hB)
