theorem ggX11_isWave_X11_in : GoodIn wsX11_isWave wsX11_in := gi_sub (fun w h => List.mem_cons_of_mem _ (List.mem_append_left _ (List.mem_append_right _ h))) gd_wsX11_in
set_option maxRecDepth 20000 in
theorem gX11_isWave_X11_in : GoodIn wsX11_isWave (va_wsS RX11 281 yX11_in wsX11_in) := goodIn_app (goodIn_of _ (by decide +kernel)) ggX11_isWave_X11_in
theorem dX11_isWave_0 : decode cX11_isWave 0 = .ok (.iload_n 1, 1) := dc1_27 (by decide +kernel)
theorem dX11_isWave_1 : decode cX11_isWave 1 = .ok (.iconst 0, 1) := dc1_3 (by decide +kernel)
theorem dX11_isWave_2 : decode cX11_isWave 2 = .ok (.aload_n 0, 1) := dc1_42 (by decide +kernel)
theorem dX11_isWave_3 : decode cX11_isWave 3 = .ok (.getfield 40, 3) := dcw_180 (by decide +kernel)
theorem dX11_isWave_6 : decode cX11_isWave 6 = .ok (.aload_n 0, 1) := dc1_42 (by decide +kernel)
theorem dX11_isWave_7 : decode cX11_isWave 7 = .ok (.getfield 215, 3) := dcw_180 (by decide +kernel)
theorem dX11_isWave_10 : decode cX11_isWave 10 = .ok (.iaload, 1) := dc1_46 (by decide +kernel)
theorem dX11_isWave_11 : decode cX11_isWave 11 = .ok (.iconst 1, 1) := dc1_4 (by decide +kernel)
theorem dX11_isWave_12 : decode cX11_isWave 12 = .ok (.isub, 1) := dc1_100 (by decide +kernel)
theorem dX11_isWave_13 : decode cX11_isWave 13 = .ok (.invokestatic 281, 3) := dcw_184 (by decide +kernel)
theorem dX11_isWave_16 : decode cX11_isWave 16 = .ok (.ireturn, 1) := dc1_172 (by decide +kernel)
theorem ggX11_isParty_X11_in : GoodIn wsX11_isParty wsX11_in := gi_sub (fun w h => List.mem_cons_of_mem _ (List.mem_append_left _ (List.mem_append_right _ h))) gd_wsX11_in
set_option maxRecDepth 20000 in
theorem gX11_isParty_X11_in : GoodIn wsX11_isParty (va_wsS RX11 281 yX11_in wsX11_in) := goodIn_app (goodIn_of _ (by decide +kernel)) ggX11_isParty_X11_in
theorem dX11_isParty_0 : decode cX11_isParty 0 = .ok (.iload_n 1, 1) := dc1_27 (by decide +kernel)
theorem dX11_isParty_1 : decode cX11_isParty 1 = .ok (.iconst 0, 1) := dc1_3 (by decide +kernel)
theorem dX11_isParty_2 : decode cX11_isParty 2 = .ok (.aload_n 0, 1) := dc1_42 (by decide +kernel)
theorem dX11_isParty_3 : decode cX11_isParty 3 = .ok (.getfield 49, 3) := dcw_180 (by decide +kernel)
theorem dX11_isParty_6 : decode cX11_isParty 6 = .ok (.aload_n 0, 1) := dc1_42 (by decide +kernel)
theorem dX11_isParty_7 : decode cX11_isParty 7 = .ok (.getfield 215, 3) := dcw_180 (by decide +kernel)
theorem dX11_isParty_10 : decode cX11_isParty 10 = .ok (.iaload, 1) := dc1_46 (by decide +kernel)
theorem dX11_isParty_11 : decode cX11_isParty 11 = .ok (.iconst 1, 1) := dc1_4 (by decide +kernel)
theorem dX11_isParty_12 : decode cX11_isParty 12 = .ok (.isub, 1) := dc1_100 (by decide +kernel)
theorem dX11_isParty_13 : decode cX11_isParty 13 = .ok (.invokestatic 281, 3) := dcw_184 (by decide +kernel)
theorem dX11_isParty_16 : decode cX11_isParty 16 = .ok (.ireturn, 1) := dc1_172 (by decide +kernel)
theorem dX11_guesses_0 : decode cX11_guesses 0 = .ok (.aload_n 0, 1) := dc1_42 (by decide +kernel)
theorem dX11_guesses_1 : decode cX11_guesses 1 = .ok (.getfield 104, 3) := dcw_180 (by decide +kernel)
theorem dX11_guesses_4 : decode cX11_guesses 4 = .ok (.aload_n 0, 1) := dc1_42 (by decide +kernel)
theorem dX11_guesses_5 : decode cX11_guesses 5 = .ok (.getfield 40, 3) := dcw_180 (by decide +kernel)
theorem dX11_guesses_8 : decode cX11_guesses 8 = .ok (.aload_n 0, 1) := dc1_42 (by decide +kernel)
theorem dX11_guesses_9 : decode cX11_guesses 9 = .ok (.getfield 215, 3) := dcw_180 (by decide +kernel)
theorem dX11_guesses_12 : decode cX11_guesses 12 = .ok (.iaload, 1) := dc1_46 (by decide +kernel)
theorem dX11_guesses_13 : decode cX11_guesses 13 = .ok (.iaload, 1) := dc1_46 (by decide +kernel)
theorem dX11_guesses_14 : decode cX11_guesses 14 = .ok (.ireturn, 1) := dc1_172 (by decide +kernel)
theorem ggX11_isGuess_X11_guesses : GoodIn wsX11_isGuess wsX11_guesses := gi_sub (fun w h => List.mem_cons_of_mem _ (List.mem_append_left _ (List.mem_append_right _ (List.mem_append_left _ h)))) gd_wsX11_guesses
set_option maxRecDepth 20000 in
theorem gX11_isGuess_X11_guesses : GoodIn wsX11_isGuess (wsV RX11 285 RX11 yX11_guesses wsX11_guesses) := goodIn_app (goodIn_r _ [1, 2, 3, 4] (by decide +kernel) (by decide +kernel)) ggX11_isGuess_X11_guesses
theorem ggX11_isGuess_X11_in : GoodIn wsX11_isGuess wsX11_in := gi_sub (fun w h => List.mem_cons_of_mem _ (List.mem_append_left _ (List.mem_append_right _ (List.mem_append_right _ h)))) gd_wsX11_in
set_option maxRecDepth 20000 in
theorem gX11_isGuess_X11_in : GoodIn wsX11_isGuess (va_wsS RX11 281 yX11_in wsX11_in) := goodIn_app (goodIn_of _ (by decide +kernel)) ggX11_isGuess_X11_in
theorem dX11_isGuess_0 : decode cX11_isGuess 0 = .ok (.iload_n 1, 1) := dc1_27 (by decide +kernel)
theorem dX11_isGuess_1 : decode cX11_isGuess 1 = .ok (.iconst 0, 1) := dc1_3 (by decide +kernel)
theorem dX11_isGuess_2 : decode cX11_isGuess 2 = .ok (.aload_n 0, 1) := dc1_42 (by decide +kernel)
theorem dX11_isGuess_3 : decode cX11_isGuess 3 = .ok (.invokevirtual 285, 3) := dcw_182 (by decide +kernel)
theorem dX11_isGuess_6 : decode cX11_isGuess 6 = .ok (.iconst 1, 1) := dc1_4 (by decide +kernel)
theorem dX11_isGuess_7 : decode cX11_isGuess 7 = .ok (.isub, 1) := dc1_100 (by decide +kernel)
theorem dX11_isGuess_8 : decode cX11_isGuess 8 = .ok (.invokestatic 281, 3) := dcw_184 (by decide +kernel)
theorem dX11_isGuess_11 : decode cX11_isGuess 11 = .ok (.ireturn, 1) := dc1_172 (by decide +kernel)
theorem ggX11_isThing_X11_in : GoodIn wsX11_isThing wsX11_in := gi_sub (fun w h => List.mem_cons_of_mem _ (List.mem_append_right _ h)) gd_wsX11_in
set_option maxRecDepth 20000 in
theorem gX11_isThing_X11_in : GoodIn wsX11_isThing (va_wsS RX11 281 yX11_in wsX11_in) := goodIn_app (goodIn_of _ (by decide +kernel)) ggX11_isThing_X11_in
theorem dX11_isThing_0 : decode cX11_isThing 0 = .ok (.iload_n 0, 1) := dc1_26 (by decide +kernel)
theorem dX11_isThing_1 : decode cX11_isThing 1 = .ok (.iconst 0, 1) := dc1_3 (by decide +kernel)
theorem dX11_isThing_2 : decode cX11_isThing 2 = .ok (.iconst 5, 1) := dc1_8 (by decide +kernel)
theorem dX11_isThing_3 : decode cX11_isThing 3 = .ok (.invokestatic 281, 3) := dcw_184 (by decide +kernel)
theorem dX11_isThing_6 : decode cX11_isThing 6 = .ok (.ireturn, 1) := dc1_172 (by decide +kernel)
theorem dX11_thingAt_0 : decode cX11_thingAt 0 = .ok (.iload_n 1, 1) := dc1_27 (by decide +kernel)
theorem dX11_thingAt_1 : decode cX11_thingAt 1 = .ok (.aload_n 0, 1) := dc1_42 (by decide +kernel)
theorem dX11_thingAt_2 : decode cX11_thingAt 2 = .ok (.getfield 104, 3) := dcw_180 (by decide +kernel)
theorem dX11_thingAt_5 : decode cX11_thingAt 5 = .ok (.iload_n 2, 1) := dc1_28 (by decide +kernel)
theorem dX11_thingAt_6 : decode cX11_thingAt 6 = .ok (.iaload, 1) := dc1_46 (by decide +kernel)
theorem dX11_thingAt_7 : decode cX11_thingAt 7 = .ok (.idiv, 1) := dc1_108 (by decide +kernel)
theorem dX11_thingAt_8 : decode cX11_thingAt 8 = .ok (.bipush 6, 2) := dcb_16 (n := 6) (by decide +kernel)
theorem dX11_thingAt_10 : decode cX11_thingAt 10 = .ok (.irem, 1) := dc1_112 (by decide +kernel)
theorem dX11_thingAt_11 : decode cX11_thingAt 11 = .ok (.ireturn, 1) := dc1_172 (by decide +kernel)
theorem dX11_copies_0 : decode cX11_copies 0 = .ok (.iconst 0, 1) := dc1_3 (by decide +kernel)
theorem dX11_copies_1 : decode cX11_copies 1 = .ok (.istore_n 1, 1) := dc1_60 (by decide +kernel)
theorem dX11_copies_2 : decode cX11_copies 2 = .ok (.iload_n 1, 1) := dc1_27 (by decide +kernel)
theorem dX11_copies_3 : decode cX11_copies 3 = .ok (.bipush 29, 2) := dcb_16 (n := 29) (by decide +kernel)
theorem dX11_copies_5 : decode cX11_copies 5 = .ok (.if_icmp .ge 21, 3) := dcs_162 (n := 21) (by decide +kernel)
theorem dX11_copies_8 : decode cX11_copies 8 = .ok (.aload_n 0, 1) := dc1_42 (by decide +kernel)
theorem dX11_copies_9 : decode cX11_copies 9 = .ok (.getfield 101, 3) := dcw_180 (by decide +kernel)
theorem dX11_copies_12 : decode cX11_copies 12 = .ok (.iload_n 1, 1) := dc1_27 (by decide +kernel)
theorem dX11_copies_13 : decode cX11_copies 13 = .ok (.aload_n 0, 1) := dc1_42 (by decide +kernel)
theorem dX11_copies_14 : decode cX11_copies 14 = .ok (.getfield 98, 3) := dcw_180 (by decide +kernel)
theorem dX11_copies_17 : decode cX11_copies 17 = .ok (.iload_n 1, 1) := dc1_27 (by decide +kernel)
theorem dX11_copies_18 : decode cX11_copies 18 = .ok (.iaload, 1) := dc1_46 (by decide +kernel)
theorem dX11_copies_19 : decode cX11_copies 19 = .ok (.iastore, 1) := dc1_79 (by decide +kernel)
theorem dX11_copies_20 : decode cX11_copies 20 = .ok (.iinc 1 1, 3) := dc_iinc (m := 1) (by decide +kernel)
theorem dX11_copies_23 : decode cX11_copies 23 = .ok (.goto (-21), 3) := dcs_167 (n := 65515) (by decide +kernel)
theorem dX11_copies_26 : decode cX11_copies 26 = .ok (.aload_n 0, 1) := dc1_42 (by decide +kernel)
theorem dX11_copies_27 : decode cX11_copies 27 = .ok (.aload_n 0, 1) := dc1_42 (by decide +kernel)
theorem dX11_copies_28 : decode cX11_copies 28 = .ok (.getfield 58, 3) := dcw_180 (by decide +kernel)
theorem dX11_copies_31 : decode cX11_copies 31 = .ok (.aload_n 0, 1) := dc1_42 (by decide +kernel)
theorem dX11_copies_32 : decode cX11_copies 32 = .ok (.getfield 215, 3) := dcw_180 (by decide +kernel)
theorem dX11_copies_35 : decode cX11_copies 35 = .ok (.iaload, 1) := dc1_46 (by decide +kernel)
theorem dX11_copies_36 : decode cX11_copies 36 = .ok (.putfield 289, 3) := dcw_181 (by decide +kernel)
theorem dX11_copies_39 : decode cX11_copies 39 = .ok (.return_, 1) := dc1_177 (by decide +kernel)
theorem dX11_mixed_0 : decode cX11_mixed 0 = .ok (.iload_n 0, 1) := dc1_26 (by decide +kernel)
theorem dX11_mixed_1 : decode cX11_mixed 1 = .ok (.iload_n 1, 1) := dc1_27 (by decide +kernel)
theorem dX11_mixed_2 : decode cX11_mixed 2 = .ok (.ixor, 1) := dc1_130 (by decide +kernel)
theorem dX11_mixed_3 : decode cX11_mixed 3 = .ok (.ldc_w 292, 3) := dcw_19 (by decide +kernel)
theorem dX11_mixed_6 : decode cX11_mixed 6 = .ok (.imul, 1) := dc1_104 (by decide +kernel)
theorem dX11_mixed_7 : decode cX11_mixed 7 = .ok (.sipush 12345, 3) := dcs_17 (n := 12345) (by decide +kernel)
theorem dX11_mixed_10 : decode cX11_mixed 10 = .ok (.iadd, 1) := dc1_96 (by decide +kernel)
theorem dX11_mixed_11 : decode cX11_mixed 11 = .ok (.istore_n 2, 1) := dc1_61 (by decide +kernel)
theorem dX11_mixed_12 : decode cX11_mixed 12 = .ok (.iload_n 2, 1) := dc1_28 (by decide +kernel)
theorem dX11_mixed_13 : decode cX11_mixed 13 = .ok (.iload_n 2, 1) := dc1_28 (by decide +kernel)
theorem dX11_mixed_14 : decode cX11_mixed 14 = .ok (.bipush 15, 2) := dcb_16 (n := 15) (by decide +kernel)
theorem dX11_mixed_16 : decode cX11_mixed 16 = .ok (.iushr, 1) := dc1_124 (by decide +kernel)
theorem dX11_mixed_17 : decode cX11_mixed 17 = .ok (.ixor, 1) := dc1_130 (by decide +kernel)
theorem dX11_mixed_18 : decode cX11_mixed 18 = .ok (.ireturn, 1) := dc1_172 (by decide +kernel)
theorem ggX11_lotOf_X11_mixed : GoodIn wsX11_lotOf wsX11_mixed := gi_sub (fun w h => List.mem_cons_of_mem _ (List.mem_append_left _ (List.mem_append_right _ h))) gd_wsX11_mixed
set_option maxRecDepth 20000 in
theorem gX11_lotOf_X11_mixed : GoodIn wsX11_lotOf (va_wsS RX11 293 yX11_mixed wsX11_mixed) := goodIn_app (goodIn_of _ (by decide +kernel)) ggX11_lotOf_X11_mixed
theorem dX11_lotOf_0 : decode cX11_lotOf 0 = .ok (.aload_n 0, 1) := dc1_42 (by decide +kernel)
theorem dX11_lotOf_1 : decode cX11_lotOf 1 = .ok (.getfield 289, 3) := dcw_180 (by decide +kernel)
theorem dX11_lotOf_4 : decode cX11_lotOf 4 = .ok (.sipush 173, 3) := dcs_17 (n := 173) (by decide +kernel)
theorem dX11_lotOf_7 : decode cX11_lotOf 7 = .ok (.invokestatic 293, 3) := dcw_184 (by decide +kernel)
theorem dX11_lotOf_10 : decode cX11_lotOf 10 = .ok (.iload_n 1, 1) := dc1_27 (by decide +kernel)
theorem dX11_lotOf_11 : decode cX11_lotOf 11 = .ok (.invokestatic 293, 3) := dcw_184 (by decide +kernel)
theorem dX11_lotOf_14 : decode cX11_lotOf 14 = .ok (.iconst 1, 1) := dc1_4 (by decide +kernel)
theorem dX11_lotOf_15 : decode cX11_lotOf 15 = .ok (.iushr, 1) := dc1_124 (by decide +kernel)
theorem dX11_lotOf_16 : decode cX11_lotOf 16 = .ok (.iload_n 2, 1) := dc1_28 (by decide +kernel)
theorem dX11_lotOf_17 : decode cX11_lotOf 17 = .ok (.irem, 1) := dc1_112 (by decide +kernel)
theorem dX11_lotOf_18 : decode cX11_lotOf 18 = .ok (.ireturn, 1) := dc1_172 (by decide +kernel)
theorem dX11_oddsAt_0 : decode cX11_oddsAt 0 = .ok (.aload_n 0, 1) := dc1_42 (by decide +kernel)
theorem dX11_oddsAt_1 : decode cX11_oddsAt 1 = .ok (.getfield 43, 3) := dcw_180 (by decide +kernel)
theorem dX11_oddsAt_4 : decode cX11_oddsAt 4 = .ok (.bipush 30, 2) := dcb_16 (n := 30) (by decide +kernel)
theorem dX11_oddsAt_6 : decode cX11_oddsAt 6 = .ok (.aload_n 0, 1) := dc1_42 (by decide +kernel)
theorem dX11_oddsAt_7 : decode cX11_oddsAt 7 = .ok (.getfield 215, 3) := dcw_180 (by decide +kernel)
theorem dX11_oddsAt_10 : decode cX11_oddsAt 10 = .ok (.imul, 1) := dc1_104 (by decide +kernel)
theorem dX11_oddsAt_11 : decode cX11_oddsAt 11 = .ok (.bipush 6, 2) := dcb_16 (n := 6) (by decide +kernel)
theorem dX11_oddsAt_13 : decode cX11_oddsAt 13 = .ok (.iload_n 1, 1) := dc1_27 (by decide +kernel)
theorem dX11_oddsAt_14 : decode cX11_oddsAt 14 = .ok (.imul, 1) := dc1_104 (by decide +kernel)
theorem dX11_oddsAt_15 : decode cX11_oddsAt 15 = .ok (.iadd, 1) := dc1_96 (by decide +kernel)
theorem dX11_oddsAt_16 : decode cX11_oddsAt 16 = .ok (.iload_n 2, 1) := dc1_28 (by decide +kernel)
theorem dX11_oddsAt_17 : decode cX11_oddsAt 17 = .ok (.iadd, 1) := dc1_96 (by decide +kernel)
theorem dX11_oddsAt_18 : decode cX11_oddsAt 18 = .ok (.iaload, 1) := dc1_46 (by decide +kernel)
theorem dX11_oddsAt_19 : decode cX11_oddsAt 19 = .ok (.ireturn, 1) := dc1_172 (by decide +kernel)
theorem ggX11_thereAt_X11_oddsAt : GoodIn wsX11_thereAt wsX11_oddsAt := gi_sub (fun w h => List.mem_cons_of_mem _ (List.mem_append_left _ (List.mem_append_right _ (List.mem_append_left _ h)))) gd_wsX11_oddsAt
set_option maxRecDepth 20000 in
theorem gX11_thereAt_X11_oddsAt : GoodIn wsX11_thereAt (wsV RX11 297 RX11 yX11_oddsAt wsX11_oddsAt) := goodIn_app (goodIn_r _ [2, 3, 4, 5] (by decide +kernel) (by decide +kernel)) ggX11_thereAt_X11_oddsAt
theorem ggX11_thereAt_X11_lotOf : GoodIn wsX11_thereAt wsX11_lotOf := gi_sub (fun w h => List.mem_cons_of_mem _ (List.mem_append_left _ (List.mem_append_right _ (List.mem_append_right _ h)))) gd_wsX11_lotOf
set_option maxRecDepth 20000 in
theorem gX11_thereAt_X11_lotOf : GoodIn wsX11_thereAt (wsV RX11 300 RX11 yX11_lotOf wsX11_lotOf) := goodIn_app (goodIn_r _ [6, 7, 8, 5] (by decide +kernel) (by decide +kernel)) ggX11_thereAt_X11_lotOf
theorem dX11_thereAt_0 : decode cX11_thereAt 0 = .ok (.iconst 0, 1) := dc1_3 (by decide +kernel)
theorem dX11_thereAt_1 : decode cX11_thereAt 1 = .ok (.istore_n 2, 1) := dc1_61 (by decide +kernel)
theorem dX11_thereAt_2 : decode cX11_thereAt 2 = .ok (.iconst 0, 1) := dc1_3 (by decide +kernel)
theorem dX11_thereAt_3 : decode cX11_thereAt 3 = .ok (.istore_n 3, 1) := dc1_62 (by decide +kernel)
theorem dX11_thereAt_4 : decode cX11_thereAt 4 = .ok (.iload_n 3, 1) := dc1_29 (by decide +kernel)
theorem dX11_thereAt_5 : decode cX11_thereAt 5 = .ok (.bipush 6, 2) := dcb_16 (n := 6) (by decide +kernel)
theorem dX11_thereAt_7 : decode cX11_thereAt 7 = .ok (.if_icmp .ge 18, 3) := dcs_162 (n := 18) (by decide +kernel)
theorem dX11_thereAt_10 : decode cX11_thereAt 10 = .ok (.iload_n 2, 1) := dc1_28 (by decide +kernel)
theorem dX11_thereAt_11 : decode cX11_thereAt 11 = .ok (.aload_n 0, 1) := dc1_42 (by decide +kernel)
theorem dX11_thereAt_12 : decode cX11_thereAt 12 = .ok (.iload_n 1, 1) := dc1_27 (by decide +kernel)
theorem dX11_thereAt_13 : decode cX11_thereAt 13 = .ok (.iload_n 3, 1) := dc1_29 (by decide +kernel)
theorem dX11_thereAt_14 : decode cX11_thereAt 14 = .ok (.invokevirtual 297, 3) := dcw_182 (by decide +kernel)
theorem dX11_thereAt_17 : decode cX11_thereAt 17 = .ok (.iadd, 1) := dc1_96 (by decide +kernel)
theorem dX11_thereAt_18 : decode cX11_thereAt 18 = .ok (.istore_n 2, 1) := dc1_61 (by decide +kernel)
theorem dX11_thereAt_19 : decode cX11_thereAt 19 = .ok (.iinc 3 1, 3) := dc_iinc (m := 1) (by decide +kernel)
theorem dX11_thereAt_22 : decode cX11_thereAt 22 = .ok (.goto (-18), 3) := dcs_167 (n := 65518) (by decide +kernel)
theorem dX11_thereAt_25 : decode cX11_thereAt 25 = .ok (.aload_n 0, 1) := dc1_42 (by decide +kernel)
theorem dX11_thereAt_26 : decode cX11_thereAt 26 = .ok (.bipush 8, 2) := dcb_16 (n := 8) (by decide +kernel)
theorem dX11_thereAt_28 : decode cX11_thereAt 28 = .ok (.aload_n 0, 1) := dc1_42 (by decide +kernel)
theorem dX11_thereAt_29 : decode cX11_thereAt 29 = .ok (.getfield 101, 3) := dcw_180 (by decide +kernel)
theorem dX11_thereAt_32 : decode cX11_thereAt 32 = .ok (.bipush 10, 2) := dcb_16 (n := 10) (by decide +kernel)
theorem dX11_thereAt_34 : decode cX11_thereAt 34 = .ok (.iload_n 1, 1) := dc1_27 (by decide +kernel)
theorem dX11_thereAt_35 : decode cX11_thereAt 35 = .ok (.iadd, 1) := dc1_96 (by decide +kernel)
theorem dX11_thereAt_36 : decode cX11_thereAt 36 = .ok (.iaload, 1) := dc1_46 (by decide +kernel)
theorem dX11_thereAt_37 : decode cX11_thereAt 37 = .ok (.imul, 1) := dc1_104 (by decide +kernel)
theorem dX11_thereAt_38 : decode cX11_thereAt 38 = .ok (.iload_n 1, 1) := dc1_27 (by decide +kernel)
theorem dX11_thereAt_39 : decode cX11_thereAt 39 = .ok (.iadd, 1) := dc1_96 (by decide +kernel)
theorem dX11_thereAt_40 : decode cX11_thereAt 40 = .ok (.iload_n 2, 1) := dc1_28 (by decide +kernel)
theorem dX11_thereAt_41 : decode cX11_thereAt 41 = .ok (.invokevirtual 300, 3) := dcw_182 (by decide +kernel)
theorem dX11_thereAt_44 : decode cX11_thereAt 44 = .ok (.istore_n 3, 1) := dc1_62 (by decide +kernel)
theorem dX11_thereAt_45 : decode cX11_thereAt 45 = .ok (.iconst 0, 1) := dc1_3 (by decide +kernel)
theorem dX11_thereAt_46 : decode cX11_thereAt 46 = .ok (.istore 4, 2) := dcu_54 (by decide +kernel)
theorem dX11_thereAt_48 : decode cX11_thereAt 48 = .ok (.aload_n 0, 1) := dc1_42 (by decide +kernel)
theorem dX11_thereAt_49 : decode cX11_thereAt 49 = .ok (.iload_n 1, 1) := dc1_27 (by decide +kernel)
theorem dX11_thereAt_50 : decode cX11_thereAt 50 = .ok (.iconst 0, 1) := dc1_3 (by decide +kernel)
theorem dX11_thereAt_51 : decode cX11_thereAt 51 = .ok (.invokevirtual 297, 3) := dcw_182 (by decide +kernel)
theorem dX11_thereAt_54 : decode cX11_thereAt 54 = .ok (.istore_n 2, 1) := dc1_61 (by decide +kernel)
theorem dX11_thereAt_55 : decode cX11_thereAt 55 = .ok (.iload_n 2, 1) := dc1_28 (by decide +kernel)
theorem dX11_thereAt_56 : decode cX11_thereAt 56 = .ok (.iload_n 3, 1) := dc1_29 (by decide +kernel)
theorem dX11_thereAt_57 : decode cX11_thereAt 57 = .ok (.if_icmp .gt 19, 3) := dcs_163 (n := 19) (by decide +kernel)
theorem dX11_thereAt_60 : decode cX11_thereAt 60 = .ok (.iinc 4 1, 3) := dc_iinc (m := 1) (by decide +kernel)
theorem dX11_thereAt_63 : decode cX11_thereAt 63 = .ok (.iload_n 2, 1) := dc1_28 (by decide +kernel)
theorem dX11_thereAt_64 : decode cX11_thereAt 64 = .ok (.aload_n 0, 1) := dc1_42 (by decide +kernel)
theorem dX11_thereAt_65 : decode cX11_thereAt 65 = .ok (.iload_n 1, 1) := dc1_27 (by decide +kernel)
theorem dX11_thereAt_66 : decode cX11_thereAt 66 = .ok (.iload 4, 2) := dcu_21 (by decide +kernel)
theorem dX11_thereAt_68 : decode cX11_thereAt 68 = .ok (.invokevirtual 297, 3) := dcw_182 (by decide +kernel)
theorem dX11_thereAt_71 : decode cX11_thereAt 71 = .ok (.iadd, 1) := dc1_96 (by decide +kernel)
theorem dX11_thereAt_72 : decode cX11_thereAt 72 = .ok (.istore_n 2, 1) := dc1_61 (by decide +kernel)
theorem dX11_thereAt_73 : decode cX11_thereAt 73 = .ok (.goto (-18), 3) := dcs_167 (n := 65518) (by decide +kernel)
theorem dX11_thereAt_76 : decode cX11_thereAt 76 = .ok (.iload 4, 2) := dcu_21 (by decide +kernel)
theorem dX11_thereAt_78 : decode cX11_thereAt 78 = .ok (.ireturn, 1) := dc1_172 (by decide +kernel)
theorem ggX11_thereNumber_X11_thereAt : GoodIn wsX11_thereNumber wsX11_thereAt := gi_sub (fun w h => List.mem_cons_of_mem _ (List.mem_append_left _ (List.mem_append_right _ h))) gd_wsX11_thereAt
set_option maxRecDepth 20000 in
theorem gX11_thereNumber_X11_thereAt : GoodIn wsX11_thereNumber (wsV RX11 303 RX11 yX11_thereAt wsX11_thereAt) := goodIn_app (goodIn_r _ [4, 5, 6, 7] (by decide +kernel) (by decide +kernel)) ggX11_thereNumber_X11_thereAt
theorem dX11_thereNumber_0 : decode cX11_thereNumber 0 = .ok (.iconst 0, 1) := dc1_3 (by decide +kernel)
theorem dX11_thereNumber_1 : decode cX11_thereNumber 1 = .ok (.istore_n 1, 1) := dc1_60 (by decide +kernel)
theorem dX11_thereNumber_2 : decode cX11_thereNumber 2 = .ok (.iconst 0, 1) := dc1_3 (by decide +kernel)
theorem dX11_thereNumber_3 : decode cX11_thereNumber 3 = .ok (.istore_n 2, 1) := dc1_61 (by decide +kernel)
theorem dX11_thereNumber_4 : decode cX11_thereNumber 4 = .ok (.iload_n 2, 1) := dc1_28 (by decide +kernel)
theorem dX11_thereNumber_5 : decode cX11_thereNumber 5 = .ok (.aload_n 0, 1) := dc1_42 (by decide +kernel)
theorem dX11_thereNumber_6 : decode cX11_thereNumber 6 = .ok (.getfield 40, 3) := dcw_180 (by decide +kernel)
theorem dX11_thereNumber_9 : decode cX11_thereNumber 9 = .ok (.aload_n 0, 1) := dc1_42 (by decide +kernel)
theorem dX11_thereNumber_10 : decode cX11_thereNumber 10 = .ok (.getfield 215, 3) := dcw_180 (by decide +kernel)
theorem dX11_thereNumber_13 : decode cX11_thereNumber 13 = .ok (.iaload, 1) := dc1_46 (by decide +kernel)
theorem dX11_thereNumber_14 : decode cX11_thereNumber 14 = .ok (.if_icmp .ge 24, 3) := dcs_162 (n := 24) (by decide +kernel)
theorem dX11_thereNumber_17 : decode cX11_thereNumber 17 = .ok (.iload_n 1, 1) := dc1_27 (by decide +kernel)
theorem dX11_thereNumber_18 : decode cX11_thereNumber 18 = .ok (.aload_n 0, 1) := dc1_42 (by decide +kernel)
theorem dX11_thereNumber_19 : decode cX11_thereNumber 19 = .ok (.getfield 104, 3) := dcw_180 (by decide +kernel)
theorem dX11_thereNumber_22 : decode cX11_thereNumber 22 = .ok (.iload_n 2, 1) := dc1_28 (by decide +kernel)
theorem dX11_thereNumber_23 : decode cX11_thereNumber 23 = .ok (.iaload, 1) := dc1_46 (by decide +kernel)
theorem dX11_thereNumber_24 : decode cX11_thereNumber 24 = .ok (.aload_n 0, 1) := dc1_42 (by decide +kernel)
theorem dX11_thereNumber_25 : decode cX11_thereNumber 25 = .ok (.iload_n 2, 1) := dc1_28 (by decide +kernel)
theorem dX11_thereNumber_26 : decode cX11_thereNumber 26 = .ok (.invokevirtual 303, 3) := dcw_182 (by decide +kernel)
theorem dX11_thereNumber_29 : decode cX11_thereNumber 29 = .ok (.imul, 1) := dc1_104 (by decide +kernel)
theorem dX11_thereNumber_30 : decode cX11_thereNumber 30 = .ok (.iadd, 1) := dc1_96 (by decide +kernel)
theorem dX11_thereNumber_31 : decode cX11_thereNumber 31 = .ok (.istore_n 1, 1) := dc1_60 (by decide +kernel)
theorem dX11_thereNumber_32 : decode cX11_thereNumber 32 = .ok (.iinc 2 1, 3) := dc_iinc (m := 1) (by decide +kernel)
theorem dX11_thereNumber_35 : decode cX11_thereNumber 35 = .ok (.goto (-31), 3) := dcs_167 (n := 65505) (by decide +kernel)
theorem dX11_thereNumber_38 : decode cX11_thereNumber 38 = .ok (.iload_n 1, 1) := dc1_27 (by decide +kernel)
theorem dX11_thereNumber_39 : decode cX11_thereNumber 39 = .ok (.ireturn, 1) := dc1_172 (by decide +kernel)
theorem ggX11_mayAt_X11_oddsAt : GoodIn wsX11_mayAt wsX11_oddsAt := gi_sub (fun w h => List.mem_cons_of_mem _ (List.mem_append_left _ (List.mem_append_right _ h))) gd_wsX11_oddsAt
set_option maxRecDepth 20000 in
theorem gX11_mayAt_X11_oddsAt : GoodIn wsX11_mayAt (wsV RX11 297 RX11 yX11_oddsAt wsX11_oddsAt) := goodIn_app (goodIn_r _ [2, 3, 4, 5] (by decide +kernel) (by decide +kernel)) ggX11_mayAt_X11_oddsAt
theorem dX11_mayAt_0 : decode cX11_mayAt 0 = .ok (.aload_n 0, 1) := dc1_42 (by decide +kernel)
theorem dX11_mayAt_1 : decode cX11_mayAt 1 = .ok (.getfield 101, 3) := dcw_180 (by decide +kernel)
theorem dX11_mayAt_4 : decode cX11_mayAt 4 = .ok (.iconst 5, 1) := dc1_8 (by decide +kernel)
theorem dX11_mayAt_5 : decode cX11_mayAt 5 = .ok (.iload_n 1, 1) := dc1_27 (by decide +kernel)
theorem dX11_mayAt_6 : decode cX11_mayAt 6 = .ok (.iadd, 1) := dc1_96 (by decide +kernel)
theorem dX11_mayAt_7 : decode cX11_mayAt 7 = .ok (.iaload, 1) := dc1_46 (by decide +kernel)
theorem dX11_mayAt_8 : decode cX11_mayAt 8 = .ok (.ifCond .lt 14, 3) := dcs_155 (n := 14) (by decide +kernel)
theorem dX11_mayAt_11 : decode cX11_mayAt 11 = .ok (.iconst 1, 1) := dc1_4 (by decide +kernel)
theorem dX11_mayAt_12 : decode cX11_mayAt 12 = .ok (.aload_n 0, 1) := dc1_42 (by decide +kernel)
theorem dX11_mayAt_13 : decode cX11_mayAt 13 = .ok (.getfield 101, 3) := dcw_180 (by decide +kernel)
theorem dX11_mayAt_16 : decode cX11_mayAt 16 = .ok (.iconst 5, 1) := dc1_8 (by decide +kernel)
theorem dX11_mayAt_17 : decode cX11_mayAt 17 = .ok (.iload_n 1, 1) := dc1_27 (by decide +kernel)
theorem dX11_mayAt_18 : decode cX11_mayAt 18 = .ok (.iadd, 1) := dc1_96 (by decide +kernel)
theorem dX11_mayAt_19 : decode cX11_mayAt 19 = .ok (.iaload, 1) := dc1_46 (by decide +kernel)
theorem dX11_mayAt_20 : decode cX11_mayAt 20 = .ok (.ishl, 1) := dc1_120 (by decide +kernel)
theorem dX11_mayAt_21 : decode cX11_mayAt 21 = .ok (.ireturn, 1) := dc1_172 (by decide +kernel)
theorem dX11_mayAt_22 : decode cX11_mayAt 22 = .ok (.iconst 0, 1) := dc1_3 (by decide +kernel)
theorem dX11_mayAt_23 : decode cX11_mayAt 23 = .ok (.istore_n 2, 1) := dc1_61 (by decide +kernel)
theorem dX11_mayAt_24 : decode cX11_mayAt 24 = .ok (.iconst 0, 1) := dc1_3 (by decide +kernel)
theorem dX11_mayAt_25 : decode cX11_mayAt 25 = .ok (.istore_n 3, 1) := dc1_62 (by decide +kernel)
theorem dX11_mayAt_26 : decode cX11_mayAt 26 = .ok (.iload_n 3, 1) := dc1_29 (by decide +kernel)
theorem dX11_mayAt_27 : decode cX11_mayAt 27 = .ok (.bipush 6, 2) := dcb_16 (n := 6) (by decide +kernel)
theorem dX11_mayAt_29 : decode cX11_mayAt 29 = .ok (.if_icmp .ge 37, 3) := dcs_162 (n := 37) (by decide +kernel)
theorem dX11_mayAt_32 : decode cX11_mayAt 32 = .ok (.aload_n 0, 1) := dc1_42 (by decide +kernel)
theorem dX11_mayAt_33 : decode cX11_mayAt 33 = .ok (.iload_n 1, 1) := dc1_27 (by decide +kernel)
theorem dX11_mayAt_34 : decode cX11_mayAt 34 = .ok (.iload_n 3, 1) := dc1_29 (by decide +kernel)
theorem dX11_mayAt_35 : decode cX11_mayAt 35 = .ok (.invokevirtual 297, 3) := dcw_182 (by decide +kernel)
theorem dX11_mayAt_38 : decode cX11_mayAt 38 = .ok (.ifCond .le 22, 3) := dcs_158 (n := 22) (by decide +kernel)
theorem dX11_mayAt_41 : decode cX11_mayAt 41 = .ok (.aload_n 0, 1) := dc1_42 (by decide +kernel)
theorem dX11_mayAt_42 : decode cX11_mayAt 42 = .ok (.getfield 101, 3) := dcw_180 (by decide +kernel)
theorem dX11_mayAt_45 : decode cX11_mayAt 45 = .ok (.iload_n 1, 1) := dc1_27 (by decide +kernel)
theorem dX11_mayAt_46 : decode cX11_mayAt 46 = .ok (.iaload, 1) := dc1_46 (by decide +kernel)
theorem dX11_mayAt_47 : decode cX11_mayAt 47 = .ok (.iload_n 3, 1) := dc1_29 (by decide +kernel)
theorem dX11_mayAt_48 : decode cX11_mayAt 48 = .ok (.ishr, 1) := dc1_122 (by decide +kernel)
theorem dX11_mayAt_49 : decode cX11_mayAt 49 = .ok (.iconst 1, 1) := dc1_4 (by decide +kernel)
theorem dX11_mayAt_50 : decode cX11_mayAt 50 = .ok (.iand, 1) := dc1_126 (by decide +kernel)
theorem dX11_mayAt_51 : decode cX11_mayAt 51 = .ok (.ifCond .ne 9, 3) := dcs_154 (n := 9) (by decide +kernel)
theorem dX11_mayAt_54 : decode cX11_mayAt 54 = .ok (.iload_n 2, 1) := dc1_28 (by decide +kernel)
theorem dX11_mayAt_55 : decode cX11_mayAt 55 = .ok (.iconst 1, 1) := dc1_4 (by decide +kernel)
theorem dX11_mayAt_56 : decode cX11_mayAt 56 = .ok (.iload_n 3, 1) := dc1_29 (by decide +kernel)
theorem dX11_mayAt_57 : decode cX11_mayAt 57 = .ok (.ishl, 1) := dc1_120 (by decide +kernel)
theorem dX11_mayAt_58 : decode cX11_mayAt 58 = .ok (.ior, 1) := dc1_128 (by decide +kernel)
theorem dX11_mayAt_59 : decode cX11_mayAt 59 = .ok (.istore_n 2, 1) := dc1_61 (by decide +kernel)
theorem dX11_mayAt_60 : decode cX11_mayAt 60 = .ok (.iinc 3 1, 3) := dc_iinc (m := 1) (by decide +kernel)
theorem dX11_mayAt_63 : decode cX11_mayAt 63 = .ok (.goto (-37), 3) := dcs_167 (n := 65499) (by decide +kernel)
theorem dX11_mayAt_66 : decode cX11_mayAt 66 = .ok (.iload_n 2, 1) := dc1_28 (by decide +kernel)
theorem dX11_mayAt_67 : decode cX11_mayAt 67 = .ok (.ireturn, 1) := dc1_172 (by decide +kernel)
theorem ggX11_lawTells_X11_termOf : GoodIn wsX11_lawTells wsX11_termOf := gi_sub (fun w h => List.mem_cons_of_mem _ (List.mem_append_left _ (List.mem_append_right _ h))) gd_wsX11_termOf
set_option maxRecDepth 20000 in
theorem gX11_lawTells_X11_termOf : GoodIn wsX11_lawTells (wsV RX11 306 RX11 yX11_termOf wsX11_termOf) := goodIn_app (goodIn_r _ [10, 11, 12, 13] (by decide +kernel) (by decide +kernel)) ggX11_lawTells_X11_termOf
theorem dX11_lawTells_0 : decode cX11_lawTells 0 = .ok (.iconst 4, 1) := dc1_7 (by decide +kernel)
theorem dX11_lawTells_1 : decode cX11_lawTells 1 = .ok (.aload_n 0, 1) := dc1_42 (by decide +kernel)
theorem dX11_lawTells_2 : decode cX11_lawTells 2 = .ok (.getfield 215, 3) := dcw_180 (by decide +kernel)
theorem dX11_lawTells_5 : decode cX11_lawTells 5 = .ok (.imul, 1) := dc1_104 (by decide +kernel)
theorem dX11_lawTells_6 : decode cX11_lawTells 6 = .ok (.iload_n 1, 1) := dc1_27 (by decide +kernel)
theorem dX11_lawTells_7 : decode cX11_lawTells 7 = .ok (.iadd, 1) := dc1_96 (by decide +kernel)
theorem dX11_lawTells_8 : decode cX11_lawTells 8 = .ok (.istore_n 3, 1) := dc1_62 (by decide +kernel)
theorem dX11_lawTells_9 : decode cX11_lawTells 9 = .ok (.aload_n 0, 1) := dc1_42 (by decide +kernel)
theorem dX11_lawTells_10 : decode cX11_lawTells 10 = .ok (.getfield 61, 3) := dcw_180 (by decide +kernel)
theorem dX11_lawTells_13 : decode cX11_lawTells 13 = .ok (.iload_n 3, 1) := dc1_29 (by decide +kernel)
theorem dX11_lawTells_14 : decode cX11_lawTells 14 = .ok (.iaload, 1) := dc1_46 (by decide +kernel)
theorem dX11_lawTells_15 : decode cX11_lawTells 15 = .ok (.aload_n 0, 1) := dc1_42 (by decide +kernel)
theorem dX11_lawTells_16 : decode cX11_lawTells 16 = .ok (.getfield 64, 3) := dcw_180 (by decide +kernel)
theorem dX11_lawTells_19 : decode cX11_lawTells 19 = .ok (.iload_n 3, 1) := dc1_29 (by decide +kernel)
theorem dX11_lawTells_20 : decode cX11_lawTells 20 = .ok (.iaload, 1) := dc1_46 (by decide +kernel)
theorem dX11_lawTells_21 : decode cX11_lawTells 21 = .ok (.if_icmp .ne 5, 3) := dcs_160 (n := 5) (by decide +kernel)
theorem dX11_lawTells_24 : decode cX11_lawTells 24 = .ok (.iload_n 2, 1) := dc1_28 (by decide +kernel)
theorem dX11_lawTells_25 : decode cX11_lawTells 25 = .ok (.ireturn, 1) := dc1_172 (by decide +kernel)
theorem dX11_lawTells_26 : decode cX11_lawTells 26 = .ok (.aload_n 0, 1) := dc1_42 (by decide +kernel)
theorem dX11_lawTells_27 : decode cX11_lawTells 27 = .ok (.iconst 0, 1) := dc1_3 (by decide +kernel)
theorem dX11_lawTells_28 : decode cX11_lawTells 28 = .ok (.putfield 277, 3) := dcw_181 (by decide +kernel)
theorem dX11_lawTells_31 : decode cX11_lawTells 31 = .ok (.aload_n 0, 1) := dc1_42 (by decide +kernel)
theorem dX11_lawTells_32 : decode cX11_lawTells 32 = .ok (.getfield 61, 3) := dcw_180 (by decide +kernel)
theorem dX11_lawTells_35 : decode cX11_lawTells 35 = .ok (.iload_n 3, 1) := dc1_29 (by decide +kernel)
theorem dX11_lawTells_36 : decode cX11_lawTells 36 = .ok (.iaload, 1) := dc1_46 (by decide +kernel)
theorem dX11_lawTells_37 : decode cX11_lawTells 37 = .ok (.istore 4, 2) := dcu_54 (by decide +kernel)
theorem dX11_lawTells_39 : decode cX11_lawTells 39 = .ok (.iload 4, 2) := dcu_21 (by decide +kernel)
theorem dX11_lawTells_41 : decode cX11_lawTells 41 = .ok (.aload_n 0, 1) := dc1_42 (by decide +kernel)
theorem dX11_lawTells_42 : decode cX11_lawTells 42 = .ok (.getfield 64, 3) := dcw_180 (by decide +kernel)
theorem dX11_lawTells_45 : decode cX11_lawTells 45 = .ok (.iload_n 3, 1) := dc1_29 (by decide +kernel)
theorem dX11_lawTells_46 : decode cX11_lawTells 46 = .ok (.iaload, 1) := dc1_46 (by decide +kernel)
theorem dX11_lawTells_47 : decode cX11_lawTells 47 = .ok (.if_icmp .ge 112, 3) := dcs_162 (n := 112) (by decide +kernel)
theorem dX11_lawTells_50 : decode cX11_lawTells 50 = .ok (.aload_n 0, 1) := dc1_42 (by decide +kernel)
theorem dX11_lawTells_51 : decode cX11_lawTells 51 = .ok (.getfield 67, 3) := dcw_180 (by decide +kernel)
theorem dX11_lawTells_54 : decode cX11_lawTells 54 = .ok (.iload 4, 2) := dcu_21 (by decide +kernel)
theorem dX11_lawTells_56 : decode cX11_lawTells 56 = .ok (.baload, 1) := dc1_51 (by decide +kernel)
theorem dX11_lawTells_57 : decode cX11_lawTells 57 = .ok (.ifCond .eq 62, 3) := dcs_153 (n := 62) (by decide +kernel)
theorem dX11_lawTells_60 : decode cX11_lawTells 60 = .ok (.aload_n 0, 1) := dc1_42 (by decide +kernel)
theorem dX11_lawTells_61 : decode cX11_lawTells 61 = .ok (.aload_n 0, 1) := dc1_42 (by decide +kernel)
theorem dX11_lawTells_62 : decode cX11_lawTells 62 = .ok (.getfield 71, 3) := dcw_180 (by decide +kernel)
theorem dX11_lawTells_65 : decode cX11_lawTells 65 = .ok (.iload 4, 2) := dcu_21 (by decide +kernel)
theorem dX11_lawTells_67 : decode cX11_lawTells 67 = .ok (.iaload, 1) := dc1_46 (by decide +kernel)
theorem dX11_lawTells_68 : decode cX11_lawTells 68 = .ok (.aload_n 0, 1) := dc1_42 (by decide +kernel)
theorem dX11_lawTells_69 : decode cX11_lawTells 69 = .ok (.getfield 74, 3) := dcw_180 (by decide +kernel)
theorem dX11_lawTells_72 : decode cX11_lawTells 72 = .ok (.iload 4, 2) := dcu_21 (by decide +kernel)
theorem dX11_lawTells_74 : decode cX11_lawTells 74 = .ok (.iaload, 1) := dc1_46 (by decide +kernel)
theorem dX11_lawTells_75 : decode cX11_lawTells 75 = .ok (.invokevirtual 306, 3) := dcw_182 (by decide +kernel)
theorem dX11_lawTells_78 : decode cX11_lawTells 78 = .ok (.istore 5, 2) := dcu_54 (by decide +kernel)
theorem dX11_lawTells_80 : decode cX11_lawTells 80 = .ok (.aload_n 0, 1) := dc1_42 (by decide +kernel)
theorem dX11_lawTells_81 : decode cX11_lawTells 81 = .ok (.aload_n 0, 1) := dc1_42 (by decide +kernel)
theorem dX11_lawTells_82 : decode cX11_lawTells 82 = .ok (.getfield 74, 3) := dcw_180 (by decide +kernel)
theorem dX11_lawTells_85 : decode cX11_lawTells 85 = .ok (.iload 4, 2) := dcu_21 (by decide +kernel)
theorem dX11_lawTells_87 : decode cX11_lawTells 87 = .ok (.iaload, 1) := dc1_46 (by decide +kernel)
theorem dX11_lawTells_88 : decode cX11_lawTells 88 = .ok (.aload_n 0, 1) := dc1_42 (by decide +kernel)
theorem dX11_lawTells_89 : decode cX11_lawTells 89 = .ok (.getfield 77, 3) := dcw_180 (by decide +kernel)
theorem dX11_lawTells_92 : decode cX11_lawTells 92 = .ok (.iload 4, 2) := dcu_21 (by decide +kernel)
theorem dX11_lawTells_94 : decode cX11_lawTells 94 = .ok (.iaload, 1) := dc1_46 (by decide +kernel)
theorem dX11_lawTells_95 : decode cX11_lawTells 95 = .ok (.invokevirtual 306, 3) := dcw_182 (by decide +kernel)
theorem dX11_lawTells_98 : decode cX11_lawTells 98 = .ok (.istore 6, 2) := dcu_54 (by decide +kernel)
theorem dX11_lawTells_100 : decode cX11_lawTells 100 = .ok (.aload_n 0, 1) := dc1_42 (by decide +kernel)
theorem dX11_lawTells_101 : decode cX11_lawTells 101 = .ok (.getfield 277, 3) := dcw_180 (by decide +kernel)
theorem dX11_lawTells_104 : decode cX11_lawTells 104 = .ok (.ifCond .eq 5, 3) := dcs_153 (n := 5) (by decide +kernel)
theorem dX11_lawTells_107 : decode cX11_lawTells 107 = .ok (.iconst 0, 1) := dc1_3 (by decide +kernel)
theorem dX11_lawTells_108 : decode cX11_lawTells 108 = .ok (.ireturn, 1) := dc1_172 (by decide +kernel)
theorem dX11_lawTells_109 : decode cX11_lawTells 109 = .ok (.iload 5, 2) := dcu_21 (by decide +kernel)
theorem dX11_lawTells_111 : decode cX11_lawTells 111 = .ok (.iload 6, 2) := dcu_21 (by decide +kernel)
theorem dX11_lawTells_113 : decode cX11_lawTells 113 = .ok (.if_icmp .lt 6, 3) := dcs_161 (n := 6) (by decide +kernel)
theorem dX11_lawTells_116 : decode cX11_lawTells 116 = .ok (.goto 37, 3) := dcs_167 (n := 37) (by decide +kernel)
theorem dX11_lawTells_119 : decode cX11_lawTells 119 = .ok (.aload_n 0, 1) := dc1_42 (by decide +kernel)
theorem dX11_lawTells_120 : decode cX11_lawTells 120 = .ok (.aload_n 0, 1) := dc1_42 (by decide +kernel)
theorem dX11_lawTells_121 : decode cX11_lawTells 121 = .ok (.getfield 77, 3) := dcw_180 (by decide +kernel)
theorem dX11_lawTells_124 : decode cX11_lawTells 124 = .ok (.iload 4, 2) := dcu_21 (by decide +kernel)
theorem dX11_lawTells_126 : decode cX11_lawTells 126 = .ok (.iaload, 1) := dc1_46 (by decide +kernel)
theorem dX11_lawTells_127 : decode cX11_lawTells 127 = .ok (.aload_n 0, 1) := dc1_42 (by decide +kernel)
theorem dX11_lawTells_128 : decode cX11_lawTells 128 = .ok (.getfield 80, 3) := dcw_180 (by decide +kernel)
theorem dX11_lawTells_131 : decode cX11_lawTells 131 = .ok (.iload 4, 2) := dcu_21 (by decide +kernel)
theorem dX11_lawTells_133 : decode cX11_lawTells 133 = .ok (.iaload, 1) := dc1_46 (by decide +kernel)
theorem dX11_lawTells_134 : decode cX11_lawTells 134 = .ok (.invokevirtual 306, 3) := dcw_182 (by decide +kernel)
theorem dX11_lawTells_137 : decode cX11_lawTells 137 = .ok (.istore 5, 2) := dcu_54 (by decide +kernel)
theorem dX11_lawTells_139 : decode cX11_lawTells 139 = .ok (.aload_n 0, 1) := dc1_42 (by decide +kernel)
theorem dX11_lawTells_140 : decode cX11_lawTells 140 = .ok (.getfield 277, 3) := dcw_180 (by decide +kernel)
theorem dX11_lawTells_143 : decode cX11_lawTells 143 = .ok (.ifCond .eq 7, 3) := dcs_153 (n := 7) (by decide +kernel)
theorem dX11_lawTells_146 : decode cX11_lawTells 146 = .ok (.iconst 0, 1) := dc1_3 (by decide +kernel)
theorem dX11_lawTells_147 : decode cX11_lawTells 147 = .ok (.goto 5, 3) := dcs_167 (n := 5) (by decide +kernel)
theorem dX11_lawTells_150 : decode cX11_lawTells 150 = .ok (.iload 5, 2) := dcu_21 (by decide +kernel)
theorem dX11_lawTells_152 : decode cX11_lawTells 152 = .ok (.ireturn, 1) := dc1_172 (by decide +kernel)
theorem dX11_lawTells_153 : decode cX11_lawTells 153 = .ok (.iinc 4 1, 3) := dc_iinc (m := 1) (by decide +kernel)
theorem dX11_lawTells_156 : decode cX11_lawTells 156 = .ok (.goto (-117), 3) := dcs_167 (n := 65419) (by decide +kernel)
theorem dX11_lawTells_159 : decode cX11_lawTells 159 = .ok (.iconst 0, 1) := dc1_3 (by decide +kernel)
theorem dX11_lawTells_160 : decode cX11_lawTells 160 = .ok (.ireturn, 1) := dc1_172 (by decide +kernel)
theorem LX11_isWave_215 : Cond.fieldLink RX11 215 "GuessFerryModel" "live" "I" ∈ wsX11_isWave := by decide +kernel
theorem LX11_isWave_40 : Cond.fieldLink RX11 40 "GuessFerryModel" "waves" "[I" ∈ wsX11_isWave := by decide +kernel
theorem inX11_isWave_X11 : ∀ w ∈ u_ws RX11 TX11 58, w ∈ wsX11_isWave := by decide +kernel
set_option maxHeartbeats 4000000 in
set_option maxRecDepth 100000 in
theorem br_isWave {l : Launch} {dC : Nat → ClassId} {dI : Nat → Nat → Nat} {cB cI cJ cZ cS : ClassId} {h : Nat} {a : Nat → Nat} {as : List Value} {r : Int32} {s' : RS} (s : RS) (x1 : Int32) (hB : r_isWave s x1 = some (r, s')) : BlkI l yX11_isWave wsX11_isWave ({ frames := 1, cells := 0, slots := 0, locals := 22 }) cX11_isWave 2 (some .boolean) (dC, dI) (tysA cB cI cJ cZ cS) as 0 (mwS cB cI cJ cZ h a s) [(0, .ref h), (1, .int x1)] [] (fun x u => x = r ∧ u = (mwS cB cI cJ cZ h a s')) := by
  intro p e s0 m below meth c A E H locs ls hP hD hS hl
  obtain ⟨C, hr, hlocks, hA, hK, hN⟩ := id E
  obtain ⟨hx, hb, hml, hown, hts⟩ := id C
  unfold r_isWave at hB
  refine lv_iload_n hx hb dX11_isWave_0 rfl (lv_at hl 1 rfl) ?_
  refine lv_iconst (v := 0) hx hb dX11_isWave_1 (by decide) ?_
  refine lv_aload_n hx hb dX11_isWave_2 rfl (lv_at hl 0 rfl) ?_
  refine q_get (v := .ref (a 20)) C inX11_isWave_X11 hK hP 0 rfl rfl 20 (by decide) rfl LX11_isWave_40 rfl dX11_isWave_3 ?_
  refine lv_aload_n hx hb dX11_isWave_6 rfl (lv_at hl 0 rfl) ?_
  refine q_get (v := .int (s.v 18)) C inX11_isWave_X11 hK hP 0 rfl rfl 18 (by decide) rfl LX11_isWave_215 rfl dX11_isWave_7 ?_
  obtain ⟨g1, hB⟩ := guard_inv hB
  refine q_iald (x := (s.f 20 (Int32.toNatClampNeg (s.v 18)))) C hK hP 8 1 rfl rfl (vpb_in g1) dX11_isWave_10 rfl ?_
  refine lv_iconst (v := 1) hx hb dX11_isWave_11 (by decide) ?_
  refine lv_isub hx hb dX11_isWave_12 ?_
  obtain ⟨q_, hc, hB⟩ := bindP_inv hB
  refine q_goi0 (va_runS (As := [.int x1, .int 0, .int ((s.f 20 (Int32.toNatClampNeg (s.v 18))) - 1)]) (rest := []) C (cr_in hc _) (va_cwS 3 hts gX11_isWave_X11_in rfl rfl rfl (by decide +kernel) ⟨Nat.le_of_ble_eq_true rfl, Nat.le_of_ble_eq_true rfl⟩) (q_pre0 hN hK) rfl rfl hl.1 rfl (lv_room (Nat.le_of_ble_eq_true rfl)) dX11_isWave_13 ⟨Nat.le_of_ble_eq_true rfl, Nat.le_of_ble_eq_true rfl⟩) hP hD hS hA (fun r2 w1 H locs hw hP hS => ?_)
  subst hw
  obtain ⟨z3, hB⟩ := guard_inv hB
  exact q_zret C hr hlocks z3 hK hP hD hS (Nat.le_of_ble_eq_true rfl) (Nat.le_of_ble_eq_true rfl) dX11_isWave_16 (by cases hB; exact ⟨rfl, rfl⟩)
theorem cr_isWave {l : Launch} {dC : Nat → ClassId} {dI : Nat → Nat → Nat} {cB cI cJ cZ cS : ClassId} {h : Nat} {a : Nat → Nat} {r : Int32} {s' : RS} {s : RS} {x1 : Int32} (hB : r_isWave s x1 = some (r, s')) : CI l yX11_isWave wsX11_isWave ({ frames := 1, cells := 0, slots := 0, locals := 22 }) (dC, dI) (tysA cB cI cJ cZ cS) (mwS cB cI cJ cZ h a s) [.ref h, .int x1] (fun x u => x = r ∧ u = (mwS cB cI cJ cZ h a s')) :=
  CI_of (cc := cX11_isWave) (maxL := 2) (ret := (some .boolean)) (by decide) rfl (Nat.le_of_ble_eq_true rfl) (br_isWave _ _ hB)
theorem LX11_isParty_215 : Cond.fieldLink RX11 215 "GuessFerryModel" "live" "I" ∈ wsX11_isParty := by decide +kernel
theorem LX11_isParty_49 : Cond.fieldLink RX11 49 "GuessFerryModel" "parties" "[I" ∈ wsX11_isParty := by decide +kernel
theorem inX11_isParty_X11 : ∀ w ∈ u_ws RX11 TX11 58, w ∈ wsX11_isParty := by decide +kernel
set_option maxHeartbeats 4000000 in
set_option maxRecDepth 100000 in
theorem br_isParty {l : Launch} {dC : Nat → ClassId} {dI : Nat → Nat → Nat} {cB cI cJ cZ cS : ClassId} {h : Nat} {a : Nat → Nat} {as : List Value} {r : Int32} {s' : RS} (s : RS) (x1 : Int32) (hB : r_isParty s x1 = some (r, s')) : BlkI l yX11_isParty wsX11_isParty ({ frames := 1, cells := 0, slots := 0, locals := 22 }) cX11_isParty 2 (some .boolean) (dC, dI) (tysA cB cI cJ cZ cS) as 0 (mwS cB cI cJ cZ h a s) [(0, .ref h), (1, .int x1)] [] (fun x u => x = r ∧ u = (mwS cB cI cJ cZ h a s')) := by
  intro p e s0 m below meth c A E H locs ls hP hD hS hl
  obtain ⟨C, hr, hlocks, hA, hK, hN⟩ := id E
  obtain ⟨hx, hb, hml, hown, hts⟩ := id C
  unfold r_isParty at hB
  refine lv_iload_n hx hb dX11_isParty_0 rfl (lv_at hl 1 rfl) ?_
  refine lv_iconst (v := 0) hx hb dX11_isParty_1 (by decide) ?_
  refine lv_aload_n hx hb dX11_isParty_2 rfl (lv_at hl 0 rfl) ?_
  refine q_get (v := .ref (a 23)) C inX11_isParty_X11 hK hP 0 rfl rfl 23 (by decide) rfl LX11_isParty_49 rfl dX11_isParty_3 ?_
  refine lv_aload_n hx hb dX11_isParty_6 rfl (lv_at hl 0 rfl) ?_
  refine q_get (v := .int (s.v 18)) C inX11_isParty_X11 hK hP 0 rfl rfl 18 (by decide) rfl LX11_isParty_215 rfl dX11_isParty_7 ?_
  obtain ⟨g1, hB⟩ := guard_inv hB
  refine q_iald (x := (s.f 23 (Int32.toNatClampNeg (s.v 18)))) C hK hP 11 1 rfl rfl (vpb_in g1) dX11_isParty_10 rfl ?_
  refine lv_iconst (v := 1) hx hb dX11_isParty_11 (by decide) ?_
  refine lv_isub hx hb dX11_isParty_12 ?_
  obtain ⟨q_, hc, hB⟩ := bindP_inv hB
  refine q_goi0 (va_runS (As := [.int x1, .int 0, .int ((s.f 23 (Int32.toNatClampNeg (s.v 18))) - 1)]) (rest := []) C (cr_in hc _) (va_cwS 3 hts gX11_isParty_X11_in rfl rfl rfl (by decide +kernel) ⟨Nat.le_of_ble_eq_true rfl, Nat.le_of_ble_eq_true rfl⟩) (q_pre0 hN hK) rfl rfl hl.1 rfl (lv_room (Nat.le_of_ble_eq_true rfl)) dX11_isParty_13 ⟨Nat.le_of_ble_eq_true rfl, Nat.le_of_ble_eq_true rfl⟩) hP hD hS hA (fun r2 w1 H locs hw hP hS => ?_)
  subst hw
  obtain ⟨z3, hB⟩ := guard_inv hB
  exact q_zret C hr hlocks z3 hK hP hD hS (Nat.le_of_ble_eq_true rfl) (Nat.le_of_ble_eq_true rfl) dX11_isParty_16 (by cases hB; exact ⟨rfl, rfl⟩)
theorem cr_isParty {l : Launch} {dC : Nat → ClassId} {dI : Nat → Nat → Nat} {cB cI cJ cZ cS : ClassId} {h : Nat} {a : Nat → Nat} {r : Int32} {s' : RS} {s : RS} {x1 : Int32} (hB : r_isParty s x1 = some (r, s')) : CI l yX11_isParty wsX11_isParty ({ frames := 1, cells := 0, slots := 0, locals := 22 }) (dC, dI) (tysA cB cI cJ cZ cS) (mwS cB cI cJ cZ h a s) [.ref h, .int x1] (fun x u => x = r ∧ u = (mwS cB cI cJ cZ h a s')) :=
  CI_of (cc := cX11_isParty) (maxL := 2) (ret := (some .boolean)) (by decide) rfl (Nat.le_of_ble_eq_true rfl) (br_isParty _ _ hB)
theorem LX11_guesses_104 : Cond.fieldLink RX11 104 "GuessFerryModel" "sixes" "[I" ∈ wsX11_guesses := by decide +kernel
theorem LX11_guesses_215 : Cond.fieldLink RX11 215 "GuessFerryModel" "live" "I" ∈ wsX11_guesses := by decide +kernel
theorem LX11_guesses_40 : Cond.fieldLink RX11 40 "GuessFerryModel" "waves" "[I" ∈ wsX11_guesses := by decide +kernel
theorem inX11_guesses_X11 : ∀ w ∈ u_ws RX11 TX11 58, w ∈ wsX11_guesses := fun _ h => List.mem_cons_of_mem _ (List.mem_append_right _ h)
set_option maxHeartbeats 4000000 in
set_option maxRecDepth 100000 in
theorem br_guesses {l : Launch} {dC : Nat → ClassId} {dI : Nat → Nat → Nat} {cB cI cJ cZ cS : ClassId} {h : Nat} {a : Nat → Nat} {as : List Value} {r : Int32} {s' : RS} (s : RS) (hB : r_guesses s = some (r, s')) : BlkI l yX11_guesses wsX11_guesses ({ frames := 0, cells := 0, slots := 0, locals := 0 }) cX11_guesses 1 (some .int) (dC, dI) (tysA cB cI cJ cZ cS) as 0 (mwS cB cI cJ cZ h a s) [(0, .ref h)] [] (fun x u => x = r ∧ u = (mwS cB cI cJ cZ h a s')) := by
  intro p e s0 m below meth c A E H locs ls hP hD hS hl
  obtain ⟨C, hr, hlocks, hA, hK, hN⟩ := id E
  obtain ⟨hx, hb, hml, hown, hts⟩ := id C
  unfold r_guesses at hB
  refine lv_aload_n hx hb dX11_guesses_0 rfl (lv_at hl 0 rfl) ?_
  refine q_get (v := .ref (a 46)) C inX11_guesses_X11 hK hP 0 rfl rfl 46 (by decide) rfl LX11_guesses_104 rfl dX11_guesses_1 ?_
  refine lv_aload_n hx hb dX11_guesses_4 rfl (lv_at hl 0 rfl) ?_
  refine q_get (v := .ref (a 20)) C inX11_guesses_X11 hK hP 0 rfl rfl 20 (by decide) rfl LX11_guesses_40 rfl dX11_guesses_5 ?_
  refine lv_aload_n hx hb dX11_guesses_8 rfl (lv_at hl 0 rfl) ?_
  refine q_get (v := .int (s.v 18)) C inX11_guesses_X11 hK hP 0 rfl rfl 18 (by decide) rfl LX11_guesses_215 rfl dX11_guesses_9 ?_
  obtain ⟨g1, hB⟩ := guard_inv hB
  refine q_iald (x := (s.f 20 (Int32.toNatClampNeg (s.v 18)))) C hK hP 8 1 rfl rfl (vpb_in g1) dX11_guesses_12 rfl ?_
  obtain ⟨g2, hB⟩ := guard_inv hB
  refine q_iald (x := (s.f 46 (Int32.toNatClampNeg (s.f 20 (Int32.toNatClampNeg (s.v 18)))))) C hK hP 29 1 rfl rfl (vpb_in g2) dX11_guesses_13 rfl ?_
  exact q_iret C hr hlocks hK hP hD hS (Nat.le_of_ble_eq_true rfl) (Nat.le_of_ble_eq_true rfl) dX11_guesses_14 (by cases hB; exact ⟨rfl, rfl⟩)
theorem cr_guesses {l : Launch} {dC : Nat → ClassId} {dI : Nat → Nat → Nat} {cB cI cJ cZ cS : ClassId} {h : Nat} {a : Nat → Nat} {r : Int32} {s' : RS} {s : RS} (hB : r_guesses s = some (r, s')) : CI l yX11_guesses wsX11_guesses ({ frames := 0, cells := 0, slots := 0, locals := 0 }) (dC, dI) (tysA cB cI cJ cZ cS) (mwS cB cI cJ cZ h a s) [.ref h] (fun x u => x = r ∧ u = (mwS cB cI cJ cZ h a s')) :=
  CI_of (cc := cX11_guesses) (maxL := 1) (ret := (some .int)) (by decide) rfl (Nat.le_of_ble_eq_true rfl) (br_guesses _ hB)
set_option maxHeartbeats 4000000 in
set_option maxRecDepth 100000 in
theorem br_isGuess {l : Launch} {dC : Nat → ClassId} {dI : Nat → Nat → Nat} {cB cI cJ cZ cS : ClassId} {h : Nat} {a : Nat → Nat} {as : List Value} {r : Int32} {s' : RS} (s : RS) (x1 : Int32) (hB : r_isGuess s x1 = some (r, s')) : BlkI l yX11_isGuess wsX11_isGuess ({ frames := 1, cells := 0, slots := 0, locals := 22 }) cX11_isGuess 2 (some .boolean) (dC, dI) (tysA cB cI cJ cZ cS) as 0 (mwS cB cI cJ cZ h a s) [(0, .ref h), (1, .int x1)] [] (fun x u => x = r ∧ u = (mwS cB cI cJ cZ h a s')) := by
  intro p e s0 m below meth c A E H locs ls hP hD hS hl
  obtain ⟨C, hr, hlocks, hA, hK, hN⟩ := id E
  obtain ⟨hx, hb, hml, hown, hts⟩ := id C
  unfold r_isGuess at hB
  refine lv_iload_n hx hb dX11_isGuess_0 rfl (lv_at hl 1 rfl) ?_
  refine lv_iconst (v := 0) hx hb dX11_isGuess_1 (by decide) ?_
  refine lv_aload_n hx hb dX11_isGuess_2 rfl (lv_at hl 0 rfl) ?_
  obtain ⟨q_, s1, hc, hB⟩ := bindI_inv hB
  refine q_goiF (va_runV (As := []) (rest := [.int 0, .int x1]) C (cr_guesses hc _) (cwV 0 hts gX11_isGuess_X11_guesses rfl rfl rfl (by decide +kernel) ⟨Nat.le_of_ble_eq_true rfl, Nat.le_of_ble_eq_true rfl⟩) (q_preV hK hP (ci := 11) (q0 := 0) rfl rfl rfl (q_preF hN hK hP hD)) rfl rfl hl.1 rfl (lv_room (Nat.le_of_ble_eq_true rfl)) dX11_isGuess_3 ⟨Nat.le_of_ble_eq_true rfl, Nat.le_of_ble_eq_true rfl⟩) hD hS hA (fun r2 w1 H locs hw hP hD hS => ?_)
  obtain ⟨hq_, hw⟩ := hw; subst hw; subst hq_
  refine lv_iconst (v := 1) hx hb dX11_isGuess_6 (by decide) ?_
  refine lv_isub hx hb dX11_isGuess_7 ?_
  obtain ⟨q_, hc, hB⟩ := bindP_inv hB
  refine q_goi0 (va_runS (As := [.int x1, .int 0, .int (r2 - 1)]) (rest := []) C (cr_in hc _) (va_cwS 3 hts gX11_isGuess_X11_in rfl rfl rfl (by decide +kernel) ⟨Nat.le_of_ble_eq_true rfl, Nat.le_of_ble_eq_true rfl⟩) (q_pre0 hN hK) rfl rfl hl.1 rfl (lv_room (Nat.le_of_ble_eq_true rfl)) dX11_isGuess_8 ⟨Nat.le_of_ble_eq_true rfl, Nat.le_of_ble_eq_true rfl⟩) hP hD hS hA (fun r3 w1 H locs hw hP hS => ?_)
  subst hw
  obtain ⟨z4, hB⟩ := guard_inv hB
  exact q_zret C hr hlocks z4 hK hP hD hS (Nat.le_of_ble_eq_true rfl) (Nat.le_of_ble_eq_true rfl) dX11_isGuess_11 (by cases hB; exact ⟨rfl, rfl⟩)
theorem cr_isGuess {l : Launch} {dC : Nat → ClassId} {dI : Nat → Nat → Nat} {cB cI cJ cZ cS : ClassId} {h : Nat} {a : Nat → Nat} {r : Int32} {s' : RS} {s : RS} {x1 : Int32} (hB : r_isGuess s x1 = some (r, s')) : CI l yX11_isGuess wsX11_isGuess ({ frames := 1, cells := 0, slots := 0, locals := 22 }) (dC, dI) (tysA cB cI cJ cZ cS) (mwS cB cI cJ cZ h a s) [.ref h, .int x1] (fun x u => x = r ∧ u = (mwS cB cI cJ cZ h a s')) :=
  CI_of (cc := cX11_isGuess) (maxL := 2) (ret := (some .boolean)) (by decide) rfl (Nat.le_of_ble_eq_true rfl) (br_isGuess _ _ hB)
set_option maxHeartbeats 4000000 in
set_option maxRecDepth 100000 in
theorem br_isThing {l : Launch} {dC : Nat → ClassId} {dI : Nat → Nat → Nat} {cB cI cJ cZ cS : ClassId} {as : List Value} {r : Int32} (x0 : Int32) (hB : r_isThing x0 = some r) : BlkI l yX11_isThing wsX11_isThing ({ frames := 1, cells := 0, slots := 0, locals := 22 }) cX11_isThing 1 (some .boolean) (dC, dI) (tysA cB cI cJ cZ cS) as 0 [] [(0, .int x0)] [] (fun x _ => x = r) := by
  intro p e s0 m below meth c A E H locs ls hP hD hS hl
  obtain ⟨C, hr, hlocks, hA, hK, hN⟩ := id E
  obtain ⟨hx, hb, hml, hown, hts⟩ := id C
  unfold r_isThing at hB
  refine lv_iload_n hx hb dX11_isThing_0 rfl (lv_at hl 0 rfl) ?_
  refine lv_iconst (v := 0) hx hb dX11_isThing_1 (by decide) ?_
  refine lv_iconst (v := 5) hx hb dX11_isThing_2 (by decide) ?_
  obtain ⟨q_, hc, hB⟩ := bindP_inv hB
  refine q_goi0 (va_runS (As := [.int x0, .int 0, .int 5]) (rest := []) C (cr_in hc _) (va_cwS 3 hts gX11_isThing_X11_in rfl rfl rfl (by decide +kernel) ⟨Nat.le_of_ble_eq_true rfl, Nat.le_of_ble_eq_true rfl⟩) (q_pre0 hN hK) rfl rfl hl.1 rfl (lv_room (Nat.le_of_ble_eq_true rfl)) dX11_isThing_3 ⟨Nat.le_of_ble_eq_true rfl, Nat.le_of_ble_eq_true rfl⟩) hP hD hS hA (fun r1 w1 H locs hw hP hS => ?_)
  subst hw
  obtain ⟨z2, hB⟩ := guard_inv hB
  exact q_zret C hr hlocks z2 hK hP hD hS (Nat.le_of_ble_eq_true rfl) (Nat.le_of_ble_eq_true rfl) dX11_isThing_6 (by cases hB; rfl)
theorem cr_isThing {l : Launch} {dC : Nat → ClassId} {dI : Nat → Nat → Nat} {cB cI cJ cZ cS : ClassId} {r : Int32} {x0 : Int32} (hB : r_isThing x0 = some r) : CI l yX11_isThing wsX11_isThing ({ frames := 1, cells := 0, slots := 0, locals := 22 }) (dC, dI) (tysA cB cI cJ cZ cS) [] [.int x0] (fun x _ => x = r) :=
  CI_of (cc := cX11_isThing) (maxL := 1) (ret := (some .boolean)) (by decide) rfl (Nat.le_of_ble_eq_true rfl) (br_isThing _ hB)
theorem LX11_thingAt_104 : Cond.fieldLink RX11 104 "GuessFerryModel" "sixes" "[I" ∈ wsX11_thingAt := by decide +kernel
theorem inX11_thingAt_X11 : ∀ w ∈ u_ws RX11 TX11 58, w ∈ wsX11_thingAt := fun _ h => List.mem_cons_of_mem _ (List.mem_append_right _ h)
set_option maxHeartbeats 4000000 in
set_option maxRecDepth 100000 in
theorem br_thingAt {l : Launch} {dC : Nat → ClassId} {dI : Nat → Nat → Nat} {cB cI cJ cZ cS : ClassId} {h : Nat} {a : Nat → Nat} {as : List Value} {r : Int32} {s' : RS} (s : RS) (x1 : Int32) (x2 : Int32) (hB : r_thingAt s x1 x2 = some (r, s')) : BlkI l yX11_thingAt wsX11_thingAt ({ frames := 0, cells := 0, slots := 0, locals := 0 }) cX11_thingAt 3 (some .int) (dC, dI) (tysA cB cI cJ cZ cS) as 0 (mwS cB cI cJ cZ h a s) [(0, .ref h), (1, .int x1), (2, .int x2)] [] (fun x u => x = r ∧ u = (mwS cB cI cJ cZ h a s')) := by
  intro p e s0 m below meth c A E H locs ls hP hD hS hl
  obtain ⟨C, hr, hlocks, hA, hK, hN⟩ := id E
  obtain ⟨hx, hb, hml, hown, hts⟩ := id C
  unfold r_thingAt at hB
  refine lv_iload_n hx hb dX11_thingAt_0 rfl (lv_at hl 1 rfl) ?_
  refine lv_aload_n hx hb dX11_thingAt_1 rfl (lv_at hl 0 rfl) ?_
  refine q_get (v := .ref (a 46)) C inX11_thingAt_X11 hK hP 0 rfl rfl 46 (by decide) rfl LX11_thingAt_104 rfl dX11_thingAt_2 ?_
  refine lv_iload_n hx hb dX11_thingAt_5 rfl (lv_at hl 2 rfl) ?_
  obtain ⟨g1, hB⟩ := guard_inv hB
  refine q_iald (x := (s.f 46 (Int32.toNatClampNeg x2))) C hK hP 29 1 rfl rfl (vpb_in g1) dX11_thingAt_6 rfl ?_
  obtain ⟨z2, hB⟩ := guard_inv hB
  refine lv_idiv hx hb dX11_thingAt_7 z2 ?_
  refine lv_bipush (v := 6) hx hb dX11_thingAt_8 (by decide) ?_
  refine lv_irem hx hb dX11_thingAt_10 (by decide) ?_
  exact q_iret C hr hlocks hK hP hD hS (Nat.le_of_ble_eq_true rfl) (Nat.le_of_ble_eq_true rfl) dX11_thingAt_11 (by cases hB; exact ⟨rfl, rfl⟩)
theorem cr_thingAt {l : Launch} {dC : Nat → ClassId} {dI : Nat → Nat → Nat} {cB cI cJ cZ cS : ClassId} {h : Nat} {a : Nat → Nat} {r : Int32} {s' : RS} {s : RS} {x1 : Int32} {x2 : Int32} (hB : r_thingAt s x1 x2 = some (r, s')) : CI l yX11_thingAt wsX11_thingAt ({ frames := 0, cells := 0, slots := 0, locals := 0 }) (dC, dI) (tysA cB cI cJ cZ cS) (mwS cB cI cJ cZ h a s) [.ref h, .int x1, .int x2] (fun x u => x = r ∧ u = (mwS cB cI cJ cZ h a s')) :=
  CI_of (cc := cX11_thingAt) (maxL := 3) (ret := (some .int)) (by decide) rfl (Nat.le_of_ble_eq_true rfl) (br_thingAt _ _ _ hB)
theorem LX11_copies_101 : Cond.fieldLink RX11 101 "GuessFerryModel" "row" "[I" ∈ wsX11_copies := by decide +kernel
theorem LX11_copies_215 : Cond.fieldLink RX11 215 "GuessFerryModel" "live" "I" ∈ wsX11_copies := by decide +kernel
theorem LX11_copies_289 : Cond.fieldLink RX11 289 "GuessFerryModel" "lots" "I" ∈ wsX11_copies := by decide +kernel
theorem LX11_copies_58 : Cond.fieldLink RX11 58 "GuessFerryModel" "seed" "[I" ∈ wsX11_copies := by decide +kernel
theorem LX11_copies_98 : Cond.fieldLink RX11 98 "GuessFerryModel" "now" "[I" ∈ wsX11_copies := by decide +kernel
theorem inX11_copies_X11 : ∀ w ∈ u_ws RX11 TX11 58, w ∈ wsX11_copies := fun _ h => List.mem_cons_of_mem _ (List.mem_append_right _ h)
set_option maxHeartbeats 4000000 in
set_option maxRecDepth 100000 in
theorem br_copies_2 {l : Launch} {dC : Nat → ClassId} {dI : Nat → Nat → Nat} {cB cI cJ cZ cS : ClassId} {h : Nat} {a : Nat → Nat} {as : List Value} {s' : RS} {k2 : RS → Int32 → Option RS} (hk2 : ∀ (s : RS) (x1 : Int32), k2 s x1 = some s' → BlkV l yX11_copies wsX11_copies ({ frames := 0, cells := 0, slots := 0, locals := 0 }) cX11_copies 2 none (dC, dI) (tysA cB cI cJ cZ cS) as 2 (mwS cB cI cJ cZ h a s) [(0, .ref h), (1, .int x1)] [] (fun u => u = (mwS cB cI cJ cZ h a s'))) (s : RS) (x1 : Int32) (hB : r_copies_2 k2 s x1 = some s') : BlkV l yX11_copies wsX11_copies ({ frames := 0, cells := 0, slots := 0, locals := 0 }) cX11_copies 2 none (dC, dI) (tysA cB cI cJ cZ cS) as 2 (mwS cB cI cJ cZ h a s) [(0, .ref h), (1, .int x1)] [] (fun u => u = (mwS cB cI cJ cZ h a s')) := by
  intro p e s0 m below meth c A E H locs ls hP hD hS hl
  obtain ⟨C, hr, hlocks, hA, hK, hN⟩ := id E
  obtain ⟨hx, hb, hml, hown, hts⟩ := id C
  unfold r_copies_2 at hB
  refine lv_iload_n hx hb dX11_copies_2 rfl (lv_at hl 1 rfl) ?_
  refine lv_bipush (v := 29) hx hb dX11_copies_3 (by decide) ?_
  refine lv_icmp_ge (tgt := 26) hx hb dX11_copies_5 (by decide) (fun c1 => ?_) (fun c1 => ?_)
  · have hB := if_p hB c1
    refine lv_aload_n hx hb dX11_copies_26 rfl (lv_at hl 0 rfl) ?_
    refine lv_aload_n hx hb dX11_copies_27 rfl (lv_at hl 0 rfl) ?_
    refine q_get (v := .ref (a 26)) C inX11_copies_X11 hK hP 0 rfl rfl 26 (by decide) rfl LX11_copies_58 rfl dX11_copies_28 ?_
    refine lv_aload_n hx hb dX11_copies_31 rfl (lv_at hl 0 rfl) ?_
    refine q_get (v := .int (s.v 18)) C inX11_copies_X11 hK hP 0 rfl rfl 18 (by decide) rfl LX11_copies_215 rfl dX11_copies_32 ?_
    obtain ⟨g2, hB⟩ := guard_inv hB
    refine q_iald (x := (s.f 26 (Int32.toNatClampNeg (s.v 18)))) C hK hP 14 1 rfl rfl (vpb_in g2) dX11_copies_35 rfl ?_
    obtain ⟨s3, hs4, hB⟩ := letS_inv hB
    refine q_put (ty := .int) (w2 := (mwS cB cI cJ cZ h a s3)) tyX11 tyX11_ok nmX11 C inX11_copies_X11 hK hP hD hS 0 rfl rfl 45 (by decide) rfl LX11_copies_289 rfl (by decide +kernel) (rfl) rfl (Nat.le_of_ble_eq_true rfl) dX11_copies_36 (mwS_v45 hs4) (fun H locs hP hD hS => ?_)
    exact q_vret C hr hlocks hK hP hD hS (Nat.le_of_ble_eq_true rfl) (Nat.le_of_ble_eq_true rfl) dX11_copies_39 (by cases hB; rfl)
  · have hB := if_n hB c1
    refine lv_aload_n hx hb dX11_copies_8 rfl (lv_at hl 0 rfl) ?_
    refine q_get (v := .ref (a 44)) C inX11_copies_X11 hK hP 0 rfl rfl 44 (by decide) rfl LX11_copies_101 rfl dX11_copies_9 ?_
    refine lv_iload_n hx hb dX11_copies_12 rfl (lv_at hl 1 rfl) ?_
    refine lv_aload_n hx hb dX11_copies_13 rfl (lv_at hl 0 rfl) ?_
    refine q_get (v := .ref (a 43)) C inX11_copies_X11 hK hP 0 rfl rfl 43 (by decide) rfl LX11_copies_98 rfl dX11_copies_14 ?_
    refine lv_iload_n hx hb dX11_copies_17 rfl (lv_at hl 1 rfl) ?_
    obtain ⟨g5, hB⟩ := guard_inv hB
    refine q_iald (x := (s.f 43 (Int32.toNatClampNeg x1))) C hK hP 27 1 rfl rfl (vpb_in g5) dX11_copies_18 rfl ?_
    obtain ⟨g6, hB⟩ := guard_inv hB
    obtain ⟨s7, hs8, hB⟩ := letS_inv hB
    refine q_iast (f2 := (upd (s.f 44) (Int32.toNatClampNeg x1) (s.f 43 (Int32.toNatClampNeg x1)))) (w2 := (mwS cB cI cJ cZ h a s7)) C hK hP hD hS 28 1 rfl rfl (vpb_in g6) dX11_copies_19 rfl (mwS_f44 hs8) (fun H locs hP hD hS => ?_)
    refine lv_iinc (v := (x1 + 1)) (lv' := [(1, .int (x1 + 1)), (0, .ref h)]) hx hb dX11_copies_20 hl (k := 1) rfl (rfl) (by decide) rfl (fun ls hl => ?_)
    refine lv_goto (tgt := 2) hx hb dX11_copies_23 (by decide) ?_
    exact hk2 _ _ hB p e s0 m below meth c A E H locs ls hP hD hS (lv_sub hl [1, 0] rfl)
theorem br_copies_2L {l : Launch} {dC : Nat → ClassId} {dI : Nat → Nat → Nat} {cB cI cJ cZ cS : ClassId} {h : Nat} {a : Nat → Nat} {as : List Value} {s' : RS} : ∀ (n : Nat) (s : RS) (x1 : Int32), r_copies_2L n s x1 = some s' → BlkV l yX11_copies wsX11_copies ({ frames := 0, cells := 0, slots := 0, locals := 0 }) cX11_copies 2 none (dC, dI) (tysA cB cI cJ cZ cS) as 2 (mwS cB cI cJ cZ h a s) [(0, .ref h), (1, .int x1)] [] (fun u => u = (mwS cB cI cJ cZ h a s')) := by
  intro n
  induction n with
  | zero => intro s x1 hB; exact none_ne hB
  | succ n ih => intro s x1 hB; exact br_copies_2 ih _ _ hB
set_option maxHeartbeats 4000000 in
set_option maxRecDepth 100000 in
theorem br_copies {l : Launch} {dC : Nat → ClassId} {dI : Nat → Nat → Nat} {cB cI cJ cZ cS : ClassId} {h : Nat} {a : Nat → Nat} {as : List Value} {s' : RS} (s : RS) (hB : r_copies s = some s') : BlkV l yX11_copies wsX11_copies ({ frames := 0, cells := 0, slots := 0, locals := 0 }) cX11_copies 2 none (dC, dI) (tysA cB cI cJ cZ cS) as 0 (mwS cB cI cJ cZ h a s) [(0, .ref h)] [] (fun u => u = (mwS cB cI cJ cZ h a s')) := by
  intro p e s0 m below meth c A E H locs ls hP hD hS hl
  obtain ⟨C, hr, hlocks, hA, hK, hN⟩ := id E
  obtain ⟨hx, hb, hml, hown, hts⟩ := id C
  unfold r_copies at hB
  refine lv_iconst (v := 0) hx hb dX11_copies_0 (by decide) ?_
  refine lv_istore_n (lv' := [(1, .int 0), (0, .ref h)]) hx hb dX11_copies_1 rfl hl (by decide) rfl (fun ls hl => ?_)
  exact br_copies_2L fu _ _ hB p e s0 m below meth c A E H locs ls hP hD hS (lv_sub hl [1, 0] rfl)
theorem cr_copies {l : Launch} {dC : Nat → ClassId} {dI : Nat → Nat → Nat} {cB cI cJ cZ cS : ClassId} {h : Nat} {a : Nat → Nat} {s' : RS} {s : RS} (hB : r_copies s = some s') : CV l yX11_copies wsX11_copies ({ frames := 0, cells := 0, slots := 0, locals := 0 }) (dC, dI) (tysA cB cI cJ cZ cS) (mwS cB cI cJ cZ h a s) [.ref h] (fun u => u = (mwS cB cI cJ cZ h a s')) :=
  CV_of (cc := cX11_copies) (maxL := 2) (ret := none) (by decide) rfl (Nat.le_of_ble_eq_true rfl) (br_copies _ hB)
theorem LX11_mixed_K292 : Cond.constant RX11 292 1103515245 ∈ wsX11_mixed := by decide +kernel
set_option maxHeartbeats 4000000 in
set_option maxRecDepth 100000 in
theorem br_mixed {l : Launch} {dC : Nat → ClassId} {dI : Nat → Nat → Nat} {cB cI cJ cZ cS : ClassId} {as : List Value} {r : Int32} (x0 : Int32) (x1 : Int32) (hB : r_mixed x0 x1 = some r) : BlkI l yX11_mixed wsX11_mixed ({ frames := 0, cells := 0, slots := 0, locals := 0 }) cX11_mixed 3 (some .int) (dC, dI) (tysA cB cI cJ cZ cS) as 0 [] [(0, .int x0), (1, .int x1)] [] (fun x _ => x = r) := by
  intro p e s0 m below meth c A E H locs ls hP hD hS hl
  obtain ⟨C, hr, hlocks, hA, hK, hN⟩ := id E
  obtain ⟨hx, hb, hml, hown, hts⟩ := id C
  unfold r_mixed at hB
  refine lv_iload_n hx hb dX11_mixed_0 rfl (lv_at hl 0 rfl) ?_
  refine lv_iload_n hx hb dX11_mixed_1 rfl (lv_at hl 1 rfl) ?_
  refine lv_ixor hx hb dX11_mixed_2 ?_
  refine lv_ldcw (v := 1103515245) hx hb hown (hts _ LX11_mixed_K292) dX11_mixed_3 ?_
  refine lv_imul hx hb dX11_mixed_6 ?_
  refine lv_sipush (v := 12345) hx hb dX11_mixed_7 (by decide) ?_
  refine lv_iadd hx hb dX11_mixed_10 ?_
  refine lv_istore_n (lv' := [(2, .int (((x0 ^^^ x1) * 1103515245) + 12345)), (0, .int x0), (1, .int x1)]) hx hb dX11_mixed_11 rfl hl (by decide) rfl (fun ls hl => ?_)
  refine lv_iload_n hx hb dX11_mixed_12 rfl (lv_at hl 0 rfl) ?_
  refine lv_iload_n hx hb dX11_mixed_13 rfl (lv_at hl 0 rfl) ?_
  refine lv_bipush (v := 15) hx hb dX11_mixed_14 (by decide) ?_
  refine lv_iushr (v := (ushr (((x0 ^^^ x1) * 1103515245) + 12345) 15)) hx hb dX11_mixed_16 rfl ?_
  refine lv_ixor hx hb dX11_mixed_17 ?_
  exact q_iret C hr hlocks hK hP hD hS (Nat.le_of_ble_eq_true rfl) (Nat.le_of_ble_eq_true rfl) dX11_mixed_18 (by cases hB; rfl)
theorem cr_mixed {l : Launch} {dC : Nat → ClassId} {dI : Nat → Nat → Nat} {cB cI cJ cZ cS : ClassId} {r : Int32} {x0 : Int32} {x1 : Int32} (hB : r_mixed x0 x1 = some r) : CI l yX11_mixed wsX11_mixed ({ frames := 0, cells := 0, slots := 0, locals := 0 }) (dC, dI) (tysA cB cI cJ cZ cS) [] [.int x0, .int x1] (fun x _ => x = r) :=
  CI_of (cc := cX11_mixed) (maxL := 3) (ret := (some .int)) (by decide) rfl (Nat.le_of_ble_eq_true rfl) (br_mixed _ _ hB)
theorem LX11_lotOf_289 : Cond.fieldLink RX11 289 "GuessFerryModel" "lots" "I" ∈ wsX11_lotOf := by decide +kernel
theorem inX11_lotOf_X11 : ∀ w ∈ u_ws RX11 TX11 58, w ∈ wsX11_lotOf := by decide +kernel
set_option maxHeartbeats 4000000 in
set_option maxRecDepth 100000 in
theorem br_lotOf {l : Launch} {dC : Nat → ClassId} {dI : Nat → Nat → Nat} {cB cI cJ cZ cS : ClassId} {h : Nat} {a : Nat → Nat} {as : List Value} {r : Int32} {s' : RS} (s : RS) (x1 : Int32) (x2 : Int32) (hB : r_lotOf s x1 x2 = some (r, s')) : BlkI l yX11_lotOf wsX11_lotOf ({ frames := 1, cells := 0, slots := 0, locals := 22 }) cX11_lotOf 3 (some .int) (dC, dI) (tysA cB cI cJ cZ cS) as 0 (mwS cB cI cJ cZ h a s) [(0, .ref h), (1, .int x1), (2, .int x2)] [] (fun x u => x = r ∧ u = (mwS cB cI cJ cZ h a s')) := by
  intro p e s0 m below meth c A E H locs ls hP hD hS hl
  obtain ⟨C, hr, hlocks, hA, hK, hN⟩ := id E
  obtain ⟨hx, hb, hml, hown, hts⟩ := id C
  unfold r_lotOf at hB
  refine lv_aload_n hx hb dX11_lotOf_0 rfl (lv_at hl 0 rfl) ?_
  refine q_get (v := .int (s.v 45)) C inX11_lotOf_X11 hK hP 0 rfl rfl 45 (by decide) rfl LX11_lotOf_289 rfl dX11_lotOf_1 ?_
  refine lv_sipush (v := 173) hx hb dX11_lotOf_4 (by decide) ?_
  obtain ⟨q_, hc, hB⟩ := bindP_inv hB
  refine q_goi0 (va_runS (As := [.int (s.v 45), .int 173]) (rest := []) C (cr_mixed hc _) (va_cwS 2 hts gX11_lotOf_X11_mixed rfl rfl rfl (by decide +kernel) ⟨Nat.le_of_ble_eq_true rfl, Nat.le_of_ble_eq_true rfl⟩) (q_pre0 hN hK) rfl rfl hl.1 rfl (lv_room (Nat.le_of_ble_eq_true rfl)) dX11_lotOf_7 ⟨Nat.le_of_ble_eq_true rfl, Nat.le_of_ble_eq_true rfl⟩) hP hD hS hA (fun r1 w1 H locs hw hP hS => ?_)
  subst hw
  refine lv_iload_n hx hb dX11_lotOf_10 rfl (lv_at hl 1 rfl) ?_
  obtain ⟨q_, hc, hB⟩ := bindP_inv hB
  refine q_goi0 (va_runS (As := [.int r1, .int x1]) (rest := []) C (cr_mixed hc _) (va_cwS 2 hts gX11_lotOf_X11_mixed rfl rfl rfl (by decide +kernel) ⟨Nat.le_of_ble_eq_true rfl, Nat.le_of_ble_eq_true rfl⟩) (q_pre0 hN hK) rfl rfl hl.1 rfl (lv_room (Nat.le_of_ble_eq_true rfl)) dX11_lotOf_11 ⟨Nat.le_of_ble_eq_true rfl, Nat.le_of_ble_eq_true rfl⟩) hP hD hS hA (fun r2 w1 H locs hw hP hS => ?_)
  subst hw
  refine lv_iconst (v := 1) hx hb dX11_lotOf_14 (by decide) ?_
  refine lv_iushr (v := (ushr r2 1)) hx hb dX11_lotOf_15 rfl ?_
  refine lv_iload_n hx hb dX11_lotOf_16 rfl (lv_at hl 2 rfl) ?_
  obtain ⟨z3, hB⟩ := guard_inv hB
  refine lv_irem hx hb dX11_lotOf_17 z3 ?_
  exact q_iret C hr hlocks hK hP hD hS (Nat.le_of_ble_eq_true rfl) (Nat.le_of_ble_eq_true rfl) dX11_lotOf_18 (by cases hB; exact ⟨rfl, rfl⟩)
theorem cr_lotOf {l : Launch} {dC : Nat → ClassId} {dI : Nat → Nat → Nat} {cB cI cJ cZ cS : ClassId} {h : Nat} {a : Nat → Nat} {r : Int32} {s' : RS} {s : RS} {x1 : Int32} {x2 : Int32} (hB : r_lotOf s x1 x2 = some (r, s')) : CI l yX11_lotOf wsX11_lotOf ({ frames := 1, cells := 0, slots := 0, locals := 22 }) (dC, dI) (tysA cB cI cJ cZ cS) (mwS cB cI cJ cZ h a s) [.ref h, .int x1, .int x2] (fun x u => x = r ∧ u = (mwS cB cI cJ cZ h a s')) :=
  CI_of (cc := cX11_lotOf) (maxL := 3) (ret := (some .int)) (by decide) rfl (Nat.le_of_ble_eq_true rfl) (br_lotOf _ _ _ hB)
theorem LX11_oddsAt_215 : Cond.fieldLink RX11 215 "GuessFerryModel" "live" "I" ∈ wsX11_oddsAt := by decide +kernel
theorem LX11_oddsAt_43 : Cond.fieldLink RX11 43 "GuessFerryModel" "oddsOf" "[I" ∈ wsX11_oddsAt := by decide +kernel
theorem inX11_oddsAt_X11 : ∀ w ∈ u_ws RX11 TX11 58, w ∈ wsX11_oddsAt := fun _ h => List.mem_cons_of_mem _ (List.mem_append_right _ h)
set_option maxHeartbeats 4000000 in
set_option maxRecDepth 100000 in
theorem br_oddsAt {l : Launch} {dC : Nat → ClassId} {dI : Nat → Nat → Nat} {cB cI cJ cZ cS : ClassId} {h : Nat} {a : Nat → Nat} {as : List Value} {r : Int32} {s' : RS} (s : RS) (x1 : Int32) (x2 : Int32) (hB : r_oddsAt s x1 x2 = some (r, s')) : BlkI l yX11_oddsAt wsX11_oddsAt ({ frames := 0, cells := 0, slots := 0, locals := 0 }) cX11_oddsAt 3 (some .int) (dC, dI) (tysA cB cI cJ cZ cS) as 0 (mwS cB cI cJ cZ h a s) [(0, .ref h), (1, .int x1), (2, .int x2)] [] (fun x u => x = r ∧ u = (mwS cB cI cJ cZ h a s')) := by
  intro p e s0 m below meth c A E H locs ls hP hD hS hl
  obtain ⟨C, hr, hlocks, hA, hK, hN⟩ := id E
  obtain ⟨hx, hb, hml, hown, hts⟩ := id C
  unfold r_oddsAt at hB
  refine lv_aload_n hx hb dX11_oddsAt_0 rfl (lv_at hl 0 rfl) ?_
  refine q_get (v := .ref (a 21)) C inX11_oddsAt_X11 hK hP 0 rfl rfl 21 (by decide) rfl LX11_oddsAt_43 rfl dX11_oddsAt_1 ?_
  refine lv_bipush (v := 30) hx hb dX11_oddsAt_4 (by decide) ?_
  refine lv_aload_n hx hb dX11_oddsAt_6 rfl (lv_at hl 0 rfl) ?_
  refine q_get (v := .int (s.v 18)) C inX11_oddsAt_X11 hK hP 0 rfl rfl 18 (by decide) rfl LX11_oddsAt_215 rfl dX11_oddsAt_7 ?_
  refine lv_imul hx hb dX11_oddsAt_10 ?_
  refine lv_bipush (v := 6) hx hb dX11_oddsAt_11 (by decide) ?_
  refine lv_iload_n hx hb dX11_oddsAt_13 rfl (lv_at hl 1 rfl) ?_
  refine lv_imul hx hb dX11_oddsAt_14 ?_
  refine lv_iadd hx hb dX11_oddsAt_15 ?_
  refine lv_iload_n hx hb dX11_oddsAt_16 rfl (lv_at hl 2 rfl) ?_
  refine lv_iadd hx hb dX11_oddsAt_17 ?_
  obtain ⟨g1, hB⟩ := guard_inv hB
  refine q_iald (x := (s.f 21 (Int32.toNatClampNeg (((30 * (s.v 18)) + (6 * x1)) + x2)))) C hK hP 9 1 rfl rfl (vpb_in g1) dX11_oddsAt_18 rfl ?_
  exact q_iret C hr hlocks hK hP hD hS (Nat.le_of_ble_eq_true rfl) (Nat.le_of_ble_eq_true rfl) dX11_oddsAt_19 (by cases hB; exact ⟨rfl, rfl⟩)
theorem cr_oddsAt {l : Launch} {dC : Nat → ClassId} {dI : Nat → Nat → Nat} {cB cI cJ cZ cS : ClassId} {h : Nat} {a : Nat → Nat} {r : Int32} {s' : RS} {s : RS} {x1 : Int32} {x2 : Int32} (hB : r_oddsAt s x1 x2 = some (r, s')) : CI l yX11_oddsAt wsX11_oddsAt ({ frames := 0, cells := 0, slots := 0, locals := 0 }) (dC, dI) (tysA cB cI cJ cZ cS) (mwS cB cI cJ cZ h a s) [.ref h, .int x1, .int x2] (fun x u => x = r ∧ u = (mwS cB cI cJ cZ h a s')) :=
  CI_of (cc := cX11_oddsAt) (maxL := 3) (ret := (some .int)) (by decide) rfl (Nat.le_of_ble_eq_true rfl) (br_oddsAt _ _ _ hB)
theorem LX11_thereAt_101 : Cond.fieldLink RX11 101 "GuessFerryModel" "row" "[I" ∈ wsX11_thereAt := by decide +kernel
theorem inX11_thereAt_X11 : ∀ w ∈ u_ws RX11 TX11 58, w ∈ wsX11_thereAt := by decide +kernel
set_option maxHeartbeats 4000000 in
set_option maxRecDepth 100000 in
theorem br_thereAt_55 {l : Launch} {dC : Nat → ClassId} {dI : Nat → Nat → Nat} {cB cI cJ cZ cS : ClassId} {h : Nat} {a : Nat → Nat} {as : List Value} {r : Int32} {s' : RS} {k55 : RS → Int32 → Int32 → Int32 → Int32 → Option (Int32 × RS)} (hk55 : ∀ (s : RS) (x1 : Int32) (x2 : Int32) (x3 : Int32) (x4 : Int32), k55 s x1 x2 x3 x4 = some (r, s') → BlkI l yX11_thereAt wsX11_thereAt ({ frames := 2, cells := 0, slots := 0, locals := 44 }) cX11_thereAt 5 (some .int) (dC, dI) (tysA cB cI cJ cZ cS) as 55 (mwS cB cI cJ cZ h a s) [(0, .ref h), (1, .int x1), (2, .int x2), (3, .int x3), (4, .int x4)] [] (fun x u => x = r ∧ u = (mwS cB cI cJ cZ h a s'))) (s : RS) (x1 : Int32) (x2 : Int32) (x3 : Int32) (x4 : Int32) (hB : r_thereAt_55 k55 s x1 x2 x3 x4 = some (r, s')) : BlkI l yX11_thereAt wsX11_thereAt ({ frames := 2, cells := 0, slots := 0, locals := 44 }) cX11_thereAt 5 (some .int) (dC, dI) (tysA cB cI cJ cZ cS) as 55 (mwS cB cI cJ cZ h a s) [(0, .ref h), (1, .int x1), (2, .int x2), (3, .int x3), (4, .int x4)] [] (fun x u => x = r ∧ u = (mwS cB cI cJ cZ h a s')) := by
  intro p e s0 m below meth c A E H locs ls hP hD hS hl
  obtain ⟨C, hr, hlocks, hA, hK, hN⟩ := id E
  obtain ⟨hx, hb, hml, hown, hts⟩ := id C
  unfold r_thereAt_55 at hB
  refine lv_iload_n hx hb dX11_thereAt_55 rfl (lv_at hl 2 rfl) ?_
  refine lv_iload_n hx hb dX11_thereAt_56 rfl (lv_at hl 3 rfl) ?_
  refine lv_icmp_gt (tgt := 76) hx hb dX11_thereAt_57 (by decide) (fun c1 => ?_) (fun c1 => ?_)
  · have hB := if_p hB c1
    refine lv_iload hx hb dX11_thereAt_76 (lv_at hl 4 rfl) ?_
    exact q_iret C hr hlocks hK hP hD hS (Nat.le_of_ble_eq_true rfl) (Nat.le_of_ble_eq_true rfl) dX11_thereAt_78 (by cases hB; exact ⟨rfl, rfl⟩)
  · have hB := if_n hB c1
    refine lv_iinc (v := (x4 + 1)) (lv' := [(4, .int (x4 + 1)), (0, .ref h), (1, .int x1), (2, .int x2), (3, .int x3)]) hx hb dX11_thereAt_60 hl (k := 4) rfl (rfl) (by decide) rfl (fun ls hl => ?_)
    refine lv_iload_n hx hb dX11_thereAt_63 rfl (lv_at hl 3 rfl) ?_
    refine lv_aload_n hx hb dX11_thereAt_64 rfl (lv_at hl 1 rfl) ?_
    refine lv_iload_n hx hb dX11_thereAt_65 rfl (lv_at hl 2 rfl) ?_
    refine lv_iload hx hb dX11_thereAt_66 (lv_at hl 0 rfl) ?_
    obtain ⟨q_, s2, hc, hB⟩ := bindI_inv hB
    refine q_goiF (va_runV (As := [.int x1, .int (x4 + 1)]) (rest := [.int x2]) C (cr_oddsAt hc _) (cwV 2 hts gX11_thereAt_X11_oddsAt rfl rfl rfl (by decide +kernel) ⟨Nat.le_of_ble_eq_true rfl, Nat.le_of_ble_eq_true rfl⟩) (q_preV hK hP (ci := 11) (q0 := 0) rfl rfl rfl (q_preF hN hK hP hD)) rfl rfl hl.1 rfl (lv_room (Nat.le_of_ble_eq_true rfl)) dX11_thereAt_68 ⟨Nat.le_of_ble_eq_true rfl, Nat.le_of_ble_eq_true rfl⟩) hD hS hA (fun r3 w1 H locs hw hP hD hS => ?_)
    obtain ⟨hq_, hw⟩ := hw; subst hw; subst hq_
    refine lv_iadd hx hb dX11_thereAt_71 ?_
    refine lv_istore_n (lv' := [(2, .int (x2 + r3)), (4, .int (x4 + 1)), (0, .ref h), (1, .int x1), (3, .int x3)]) hx hb dX11_thereAt_72 rfl hl (by decide) rfl (fun ls hl => ?_)
    refine lv_goto (tgt := 55) hx hb dX11_thereAt_73 (by decide) ?_
    exact hk55 _ _ _ _ _ hB p e s0 m below meth c A E H locs ls hP hD hS (lv_sub hl [2, 3, 0, 4, 1] rfl)
theorem br_thereAt_55L {l : Launch} {dC : Nat → ClassId} {dI : Nat → Nat → Nat} {cB cI cJ cZ cS : ClassId} {h : Nat} {a : Nat → Nat} {as : List Value} {r : Int32} {s' : RS} : ∀ (n : Nat) (s : RS) (x1 : Int32) (x2 : Int32) (x3 : Int32) (x4 : Int32), r_thereAt_55L n s x1 x2 x3 x4 = some (r, s') → BlkI l yX11_thereAt wsX11_thereAt ({ frames := 2, cells := 0, slots := 0, locals := 44 }) cX11_thereAt 5 (some .int) (dC, dI) (tysA cB cI cJ cZ cS) as 55 (mwS cB cI cJ cZ h a s) [(0, .ref h), (1, .int x1), (2, .int x2), (3, .int x3), (4, .int x4)] [] (fun x u => x = r ∧ u = (mwS cB cI cJ cZ h a s')) := by
  intro n
  induction n with
  | zero => intro s x1 x2 x3 x4 hB; exact none_ne hB
  | succ n ih => intro s x1 x2 x3 x4 hB; exact br_thereAt_55 ih _ _ _ _ _ hB
set_option maxHeartbeats 4000000 in
set_option maxRecDepth 100000 in
theorem br_thereAt_4 {l : Launch} {dC : Nat → ClassId} {dI : Nat → Nat → Nat} {cB cI cJ cZ cS : ClassId} {h : Nat} {a : Nat → Nat} {as : List Value} {r : Int32} {s' : RS} {k4 : RS → Int32 → Int32 → Int32 → Option (Int32 × RS)} (hk4 : ∀ (s : RS) (x1 : Int32) (x2 : Int32) (x3 : Int32), k4 s x1 x2 x3 = some (r, s') → BlkI l yX11_thereAt wsX11_thereAt ({ frames := 2, cells := 0, slots := 0, locals := 44 }) cX11_thereAt 5 (some .int) (dC, dI) (tysA cB cI cJ cZ cS) as 4 (mwS cB cI cJ cZ h a s) [(0, .ref h), (1, .int x1), (2, .int x2), (3, .int x3)] [] (fun x u => x = r ∧ u = (mwS cB cI cJ cZ h a s'))) (s : RS) (x1 : Int32) (x2 : Int32) (x3 : Int32) (hB : r_thereAt_4 k4 s x1 x2 x3 = some (r, s')) : BlkI l yX11_thereAt wsX11_thereAt ({ frames := 2, cells := 0, slots := 0, locals := 44 }) cX11_thereAt 5 (some .int) (dC, dI) (tysA cB cI cJ cZ cS) as 4 (mwS cB cI cJ cZ h a s) [(0, .ref h), (1, .int x1), (2, .int x2), (3, .int x3)] [] (fun x u => x = r ∧ u = (mwS cB cI cJ cZ h a s')) := by
  intro p e s0 m below meth c A E H locs ls hP hD hS hl
  obtain ⟨C, hr, hlocks, hA, hK, hN⟩ := id E
  obtain ⟨hx, hb, hml, hown, hts⟩ := id C
  unfold r_thereAt_4 at hB
  refine lv_iload_n hx hb dX11_thereAt_4 rfl (lv_at hl 3 rfl) ?_
  refine lv_bipush (v := 6) hx hb dX11_thereAt_5 (by decide) ?_
  refine lv_icmp_ge (tgt := 25) hx hb dX11_thereAt_7 (by decide) (fun c1 => ?_) (fun c1 => ?_)
  · have hB := if_p hB c1
    refine lv_aload_n hx hb dX11_thereAt_25 rfl (lv_at hl 0 rfl) ?_
    refine lv_bipush (v := 8) hx hb dX11_thereAt_26 (by decide) ?_
    refine lv_aload_n hx hb dX11_thereAt_28 rfl (lv_at hl 0 rfl) ?_
    refine q_get (v := .ref (a 44)) C inX11_thereAt_X11 hK hP 0 rfl rfl 44 (by decide) rfl LX11_thereAt_101 rfl dX11_thereAt_29 ?_
    refine lv_bipush (v := 10) hx hb dX11_thereAt_32 (by decide) ?_
    refine lv_iload_n hx hb dX11_thereAt_34 rfl (lv_at hl 1 rfl) ?_
    refine lv_iadd hx hb dX11_thereAt_35 ?_
    obtain ⟨g2, hB⟩ := guard_inv hB
    refine q_iald (x := (s.f 44 (Int32.toNatClampNeg (10 + x1)))) C hK hP 28 1 rfl rfl (vpb_in g2) dX11_thereAt_36 rfl ?_
    refine lv_imul hx hb dX11_thereAt_37 ?_
    refine lv_iload_n hx hb dX11_thereAt_38 rfl (lv_at hl 1 rfl) ?_
    refine lv_iadd hx hb dX11_thereAt_39 ?_
    refine lv_iload_n hx hb dX11_thereAt_40 rfl (lv_at hl 2 rfl) ?_
    obtain ⟨q_, s3, hc, hB⟩ := bindI_inv hB
    refine q_goiF (va_runV (As := [.int ((8 * (s.f 44 (Int32.toNatClampNeg (10 + x1)))) + x1), .int x2]) (rest := []) C (cr_lotOf hc _) (cwV 2 hts gX11_thereAt_X11_lotOf rfl rfl rfl (by decide +kernel) ⟨Nat.le_of_ble_eq_true rfl, Nat.le_of_ble_eq_true rfl⟩) (q_preV hK hP (ci := 11) (q0 := 0) rfl rfl rfl (q_preF hN hK hP hD)) rfl rfl hl.1 rfl (lv_room (Nat.le_of_ble_eq_true rfl)) dX11_thereAt_41 ⟨Nat.le_of_ble_eq_true rfl, Nat.le_of_ble_eq_true rfl⟩) hD hS hA (fun r4 w1 H locs hw hP hD hS => ?_)
    obtain ⟨hq_, hw⟩ := hw; subst hw; subst hq_
    refine lv_istore_n (lv' := [(3, .int r4), (0, .ref h), (1, .int x1), (2, .int x2)]) hx hb dX11_thereAt_44 rfl hl (by decide) rfl (fun ls hl => ?_)
    refine lv_iconst (v := 0) hx hb dX11_thereAt_45 (by decide) ?_
    refine lv_istore (lv' := [(4, .int 0), (3, .int r4), (0, .ref h), (1, .int x1), (2, .int x2)]) hx hb dX11_thereAt_46 hl (by decide) rfl (fun ls hl => ?_)
    refine lv_aload_n hx hb dX11_thereAt_48 rfl (lv_at hl 2 rfl) ?_
    refine lv_iload_n hx hb dX11_thereAt_49 rfl (lv_at hl 3 rfl) ?_
    refine lv_iconst (v := 0) hx hb dX11_thereAt_50 (by decide) ?_
    obtain ⟨q_, s5, hc, hB⟩ := bindI_inv hB
    refine q_goiF (va_runV (As := [.int x1, .int 0]) (rest := []) C (cr_oddsAt hc _) (cwV 2 hts gX11_thereAt_X11_oddsAt rfl rfl rfl (by decide +kernel) ⟨Nat.le_of_ble_eq_true rfl, Nat.le_of_ble_eq_true rfl⟩) (q_preV hK hP (ci := 11) (q0 := 0) rfl rfl rfl (q_preF hN hK hP hD)) rfl rfl hl.1 rfl (lv_room (Nat.le_of_ble_eq_true rfl)) dX11_thereAt_51 ⟨Nat.le_of_ble_eq_true rfl, Nat.le_of_ble_eq_true rfl⟩) hD hS hA (fun r6 w1 H locs hw hP hD hS => ?_)
    obtain ⟨hq_, hw⟩ := hw; subst hw; subst hq_
    refine lv_istore_n (lv' := [(2, .int r6), (4, .int 0), (3, .int r4), (0, .ref h), (1, .int x1)]) hx hb dX11_thereAt_54 rfl hl (by decide) rfl (fun ls hl => ?_)
    exact br_thereAt_55L fu _ _ _ _ _ hB p e s0 m below meth c A E H locs ls hP hD hS (lv_sub hl [3, 4, 0, 2, 1] rfl)
  · have hB := if_n hB c1
    refine lv_iload_n hx hb dX11_thereAt_10 rfl (lv_at hl 2 rfl) ?_
    refine lv_aload_n hx hb dX11_thereAt_11 rfl (lv_at hl 0 rfl) ?_
    refine lv_iload_n hx hb dX11_thereAt_12 rfl (lv_at hl 1 rfl) ?_
    refine lv_iload_n hx hb dX11_thereAt_13 rfl (lv_at hl 3 rfl) ?_
    obtain ⟨q_, s7, hc, hB⟩ := bindI_inv hB
    refine q_goiF (va_runV (As := [.int x1, .int x3]) (rest := [.int x2]) C (cr_oddsAt hc _) (cwV 2 hts gX11_thereAt_X11_oddsAt rfl rfl rfl (by decide +kernel) ⟨Nat.le_of_ble_eq_true rfl, Nat.le_of_ble_eq_true rfl⟩) (q_preV hK hP (ci := 11) (q0 := 0) rfl rfl rfl (q_preF hN hK hP hD)) rfl rfl hl.1 rfl (lv_room (Nat.le_of_ble_eq_true rfl)) dX11_thereAt_14 ⟨Nat.le_of_ble_eq_true rfl, Nat.le_of_ble_eq_true rfl⟩) hD hS hA (fun r8 w1 H locs hw hP hD hS => ?_)
    obtain ⟨hq_, hw⟩ := hw; subst hw; subst hq_
    refine lv_iadd hx hb dX11_thereAt_17 ?_
    refine lv_istore_n (lv' := [(2, .int (x2 + r8)), (0, .ref h), (1, .int x1), (3, .int x3)]) hx hb dX11_thereAt_18 rfl hl (by decide) rfl (fun ls hl => ?_)
    refine lv_iinc (v := (x3 + 1)) (lv' := [(3, .int (x3 + 1)), (2, .int (x2 + r8)), (0, .ref h), (1, .int x1)]) hx hb dX11_thereAt_19 hl (k := 3) rfl (rfl) (by decide) rfl (fun ls hl => ?_)
    refine lv_goto (tgt := 4) hx hb dX11_thereAt_22 (by decide) ?_
    exact hk4 _ _ _ _ hB p e s0 m below meth c A E H locs ls hP hD hS (lv_sub hl [2, 3, 1, 0] rfl)
theorem br_thereAt_4L {l : Launch} {dC : Nat → ClassId} {dI : Nat → Nat → Nat} {cB cI cJ cZ cS : ClassId} {h : Nat} {a : Nat → Nat} {as : List Value} {r : Int32} {s' : RS} : ∀ (n : Nat) (s : RS) (x1 : Int32) (x2 : Int32) (x3 : Int32), r_thereAt_4L n s x1 x2 x3 = some (r, s') → BlkI l yX11_thereAt wsX11_thereAt ({ frames := 2, cells := 0, slots := 0, locals := 44 }) cX11_thereAt 5 (some .int) (dC, dI) (tysA cB cI cJ cZ cS) as 4 (mwS cB cI cJ cZ h a s) [(0, .ref h), (1, .int x1), (2, .int x2), (3, .int x3)] [] (fun x u => x = r ∧ u = (mwS cB cI cJ cZ h a s')) := by
  intro n
  induction n with
  | zero => intro s x1 x2 x3 hB; exact none_ne hB
  | succ n ih => intro s x1 x2 x3 hB; exact br_thereAt_4 ih _ _ _ _ hB
set_option maxHeartbeats 4000000 in
set_option maxRecDepth 100000 in
theorem br_thereAt {l : Launch} {dC : Nat → ClassId} {dI : Nat → Nat → Nat} {cB cI cJ cZ cS : ClassId} {h : Nat} {a : Nat → Nat} {as : List Value} {r : Int32} {s' : RS} (s : RS) (x1 : Int32) (hB : r_thereAt s x1 = some (r, s')) : BlkI l yX11_thereAt wsX11_thereAt ({ frames := 2, cells := 0, slots := 0, locals := 44 }) cX11_thereAt 5 (some .int) (dC, dI) (tysA cB cI cJ cZ cS) as 0 (mwS cB cI cJ cZ h a s) [(0, .ref h), (1, .int x1)] [] (fun x u => x = r ∧ u = (mwS cB cI cJ cZ h a s')) := by
  intro p e s0 m below meth c A E H locs ls hP hD hS hl
  obtain ⟨C, hr, hlocks, hA, hK, hN⟩ := id E
  obtain ⟨hx, hb, hml, hown, hts⟩ := id C
  unfold r_thereAt at hB
  refine lv_iconst (v := 0) hx hb dX11_thereAt_0 (by decide) ?_
  refine lv_istore_n (lv' := [(2, .int 0), (0, .ref h), (1, .int x1)]) hx hb dX11_thereAt_1 rfl hl (by decide) rfl (fun ls hl => ?_)
  refine lv_iconst (v := 0) hx hb dX11_thereAt_2 (by decide) ?_
  refine lv_istore_n (lv' := [(3, .int 0), (2, .int 0), (0, .ref h), (1, .int x1)]) hx hb dX11_thereAt_3 rfl hl (by decide) rfl (fun ls hl => ?_)
  exact br_thereAt_4L fu _ _ _ _ hB p e s0 m below meth c A E H locs ls hP hD hS (lv_sub hl [2, 3, 1, 0] rfl)
theorem cr_thereAt {l : Launch} {dC : Nat → ClassId} {dI : Nat → Nat → Nat} {cB cI cJ cZ cS : ClassId} {h : Nat} {a : Nat → Nat} {r : Int32} {s' : RS} {s : RS} {x1 : Int32} (hB : r_thereAt s x1 = some (r, s')) : CI l yX11_thereAt wsX11_thereAt ({ frames := 2, cells := 0, slots := 0, locals := 44 }) (dC, dI) (tysA cB cI cJ cZ cS) (mwS cB cI cJ cZ h a s) [.ref h, .int x1] (fun x u => x = r ∧ u = (mwS cB cI cJ cZ h a s')) :=
  CI_of (cc := cX11_thereAt) (maxL := 5) (ret := (some .int)) (by decide) rfl (Nat.le_of_ble_eq_true rfl) (br_thereAt _ _ hB)
theorem LX11_thereNumber_104 : Cond.fieldLink RX11 104 "GuessFerryModel" "sixes" "[I" ∈ wsX11_thereNumber := by decide +kernel
theorem LX11_thereNumber_215 : Cond.fieldLink RX11 215 "GuessFerryModel" "live" "I" ∈ wsX11_thereNumber := by decide +kernel
theorem LX11_thereNumber_40 : Cond.fieldLink RX11 40 "GuessFerryModel" "waves" "[I" ∈ wsX11_thereNumber := by decide +kernel
theorem inX11_thereNumber_X11 : ∀ w ∈ u_ws RX11 TX11 58, w ∈ wsX11_thereNumber := by decide +kernel
set_option maxHeartbeats 4000000 in
set_option maxRecDepth 100000 in
theorem br_thereNumber_4 {l : Launch} {dC : Nat → ClassId} {dI : Nat → Nat → Nat} {cB cI cJ cZ cS : ClassId} {h : Nat} {a : Nat → Nat} {as : List Value} {r : Int32} {s' : RS} {k4 : RS → Int32 → Int32 → Option (Int32 × RS)} (hk4 : ∀ (s : RS) (x1 : Int32) (x2 : Int32), k4 s x1 x2 = some (r, s') → BlkI l yX11_thereNumber wsX11_thereNumber ({ frames := 3, cells := 0, slots := 0, locals := 68 }) cX11_thereNumber 3 (some .int) (dC, dI) (tysA cB cI cJ cZ cS) as 4 (mwS cB cI cJ cZ h a s) [(0, .ref h), (1, .int x1), (2, .int x2)] [] (fun x u => x = r ∧ u = (mwS cB cI cJ cZ h a s'))) (s : RS) (x1 : Int32) (x2 : Int32) (hB : r_thereNumber_4 k4 s x1 x2 = some (r, s')) : BlkI l yX11_thereNumber wsX11_thereNumber ({ frames := 3, cells := 0, slots := 0, locals := 68 }) cX11_thereNumber 3 (some .int) (dC, dI) (tysA cB cI cJ cZ cS) as 4 (mwS cB cI cJ cZ h a s) [(0, .ref h), (1, .int x1), (2, .int x2)] [] (fun x u => x = r ∧ u = (mwS cB cI cJ cZ h a s')) := by
  intro p e s0 m below meth c A E H locs ls hP hD hS hl
  obtain ⟨C, hr, hlocks, hA, hK, hN⟩ := id E
  obtain ⟨hx, hb, hml, hown, hts⟩ := id C
  unfold r_thereNumber_4 at hB
  refine lv_iload_n hx hb dX11_thereNumber_4 rfl (lv_at hl 2 rfl) ?_
  refine lv_aload_n hx hb dX11_thereNumber_5 rfl (lv_at hl 0 rfl) ?_
  refine q_get (v := .ref (a 20)) C inX11_thereNumber_X11 hK hP 0 rfl rfl 20 (by decide) rfl LX11_thereNumber_40 rfl dX11_thereNumber_6 ?_
  refine lv_aload_n hx hb dX11_thereNumber_9 rfl (lv_at hl 0 rfl) ?_
  refine q_get (v := .int (s.v 18)) C inX11_thereNumber_X11 hK hP 0 rfl rfl 18 (by decide) rfl LX11_thereNumber_215 rfl dX11_thereNumber_10 ?_
  obtain ⟨g1, hB⟩ := guard_inv hB
  refine q_iald (x := (s.f 20 (Int32.toNatClampNeg (s.v 18)))) C hK hP 8 1 rfl rfl (vpb_in g1) dX11_thereNumber_13 rfl ?_
  refine lv_icmp_ge (tgt := 38) hx hb dX11_thereNumber_14 (by decide) (fun c2 => ?_) (fun c2 => ?_)
  · have hB := if_p hB c2
    refine lv_iload_n hx hb dX11_thereNumber_38 rfl (lv_at hl 1 rfl) ?_
    exact q_iret C hr hlocks hK hP hD hS (Nat.le_of_ble_eq_true rfl) (Nat.le_of_ble_eq_true rfl) dX11_thereNumber_39 (by cases hB; exact ⟨rfl, rfl⟩)
  · have hB := if_n hB c2
    refine lv_iload_n hx hb dX11_thereNumber_17 rfl (lv_at hl 1 rfl) ?_
    refine lv_aload_n hx hb dX11_thereNumber_18 rfl (lv_at hl 0 rfl) ?_
    refine q_get (v := .ref (a 46)) C inX11_thereNumber_X11 hK hP 0 rfl rfl 46 (by decide) rfl LX11_thereNumber_104 rfl dX11_thereNumber_19 ?_
    refine lv_iload_n hx hb dX11_thereNumber_22 rfl (lv_at hl 2 rfl) ?_
    obtain ⟨g3, hB⟩ := guard_inv hB
    refine q_iald (x := (s.f 46 (Int32.toNatClampNeg x2))) C hK hP 29 1 rfl rfl (vpb_in g3) dX11_thereNumber_23 rfl ?_
    refine lv_aload_n hx hb dX11_thereNumber_24 rfl (lv_at hl 0 rfl) ?_
    refine lv_iload_n hx hb dX11_thereNumber_25 rfl (lv_at hl 2 rfl) ?_
    obtain ⟨q_, s4, hc, hB⟩ := bindI_inv hB
    refine q_goiF (va_runV (As := [.int x2]) (rest := [.int (s.f 46 (Int32.toNatClampNeg x2)), .int x1]) C (cr_thereAt hc _) (cwV 1 hts gX11_thereNumber_X11_thereAt rfl rfl rfl (by decide +kernel) ⟨Nat.le_of_ble_eq_true rfl, Nat.le_of_ble_eq_true rfl⟩) (q_preV hK hP (ci := 11) (q0 := 0) rfl rfl rfl (q_preF hN hK hP hD)) rfl rfl hl.1 rfl (lv_room (Nat.le_of_ble_eq_true rfl)) dX11_thereNumber_26 ⟨Nat.le_of_ble_eq_true rfl, Nat.le_of_ble_eq_true rfl⟩) hD hS hA (fun r5 w1 H locs hw hP hD hS => ?_)
    obtain ⟨hq_, hw⟩ := hw; subst hw; subst hq_
    refine lv_imul hx hb dX11_thereNumber_29 ?_
    refine lv_iadd hx hb dX11_thereNumber_30 ?_
    refine lv_istore_n (lv' := [(1, .int (x1 + ((s.f 46 (Int32.toNatClampNeg x2)) * r5))), (0, .ref h), (2, .int x2)]) hx hb dX11_thereNumber_31 rfl hl (by decide) rfl (fun ls hl => ?_)
    refine lv_iinc (v := (x2 + 1)) (lv' := [(2, .int (x2 + 1)), (1, .int (x1 + ((s.f 46 (Int32.toNatClampNeg x2)) * r5))), (0, .ref h)]) hx hb dX11_thereNumber_32 hl (k := 2) rfl (rfl) (by decide) rfl (fun ls hl => ?_)
    refine lv_goto (tgt := 4) hx hb dX11_thereNumber_35 (by decide) ?_
    exact hk4 _ _ _ hB p e s0 m below meth c A E H locs ls hP hD hS (lv_sub hl [2, 1, 0] rfl)
theorem br_thereNumber_4L {l : Launch} {dC : Nat → ClassId} {dI : Nat → Nat → Nat} {cB cI cJ cZ cS : ClassId} {h : Nat} {a : Nat → Nat} {as : List Value} {r : Int32} {s' : RS} : ∀ (n : Nat) (s : RS) (x1 : Int32) (x2 : Int32), r_thereNumber_4L n s x1 x2 = some (r, s') → BlkI l yX11_thereNumber wsX11_thereNumber ({ frames := 3, cells := 0, slots := 0, locals := 68 }) cX11_thereNumber 3 (some .int) (dC, dI) (tysA cB cI cJ cZ cS) as 4 (mwS cB cI cJ cZ h a s) [(0, .ref h), (1, .int x1), (2, .int x2)] [] (fun x u => x = r ∧ u = (mwS cB cI cJ cZ h a s')) := by
  intro n
  induction n with
  | zero => intro s x1 x2 hB; exact none_ne hB
  | succ n ih => intro s x1 x2 hB; exact br_thereNumber_4 ih _ _ _ hB
set_option maxHeartbeats 4000000 in
set_option maxRecDepth 100000 in
theorem br_thereNumber {l : Launch} {dC : Nat → ClassId} {dI : Nat → Nat → Nat} {cB cI cJ cZ cS : ClassId} {h : Nat} {a : Nat → Nat} {as : List Value} {r : Int32} {s' : RS} (s : RS) (hB : r_thereNumber s = some (r, s')) : BlkI l yX11_thereNumber wsX11_thereNumber ({ frames := 3, cells := 0, slots := 0, locals := 68 }) cX11_thereNumber 3 (some .int) (dC, dI) (tysA cB cI cJ cZ cS) as 0 (mwS cB cI cJ cZ h a s) [(0, .ref h)] [] (fun x u => x = r ∧ u = (mwS cB cI cJ cZ h a s')) := by
  intro p e s0 m below meth c A E H locs ls hP hD hS hl
  obtain ⟨C, hr, hlocks, hA, hK, hN⟩ := id E
  obtain ⟨hx, hb, hml, hown, hts⟩ := id C
  unfold r_thereNumber at hB
  refine lv_iconst (v := 0) hx hb dX11_thereNumber_0 (by decide) ?_
  refine lv_istore_n (lv' := [(1, .int 0), (0, .ref h)]) hx hb dX11_thereNumber_1 rfl hl (by decide) rfl (fun ls hl => ?_)
  refine lv_iconst (v := 0) hx hb dX11_thereNumber_2 (by decide) ?_
  refine lv_istore_n (lv' := [(2, .int 0), (1, .int 0), (0, .ref h)]) hx hb dX11_thereNumber_3 rfl hl (by decide) rfl (fun ls hl => ?_)
  exact br_thereNumber_4L fu _ _ _ hB p e s0 m below meth c A E H locs ls hP hD hS (lv_sub hl [2, 1, 0] rfl)
theorem cr_thereNumber {l : Launch} {dC : Nat → ClassId} {dI : Nat → Nat → Nat} {cB cI cJ cZ cS : ClassId} {h : Nat} {a : Nat → Nat} {r : Int32} {s' : RS} {s : RS} (hB : r_thereNumber s = some (r, s')) : CI l yX11_thereNumber wsX11_thereNumber ({ frames := 3, cells := 0, slots := 0, locals := 68 }) (dC, dI) (tysA cB cI cJ cZ cS) (mwS cB cI cJ cZ h a s) [.ref h] (fun x u => x = r ∧ u = (mwS cB cI cJ cZ h a s')) :=
  CI_of (cc := cX11_thereNumber) (maxL := 3) (ret := (some .int)) (by decide) rfl (Nat.le_of_ble_eq_true rfl) (br_thereNumber _ hB)
theorem LX11_mayAt_101 : Cond.fieldLink RX11 101 "GuessFerryModel" "row" "[I" ∈ wsX11_mayAt := by decide +kernel
theorem inX11_mayAt_X11 : ∀ w ∈ u_ws RX11 TX11 58, w ∈ wsX11_mayAt := by decide +kernel
set_option maxHeartbeats 4000000 in
set_option maxRecDepth 100000 in
theorem br_mayAt_60 {l : Launch} {dC : Nat → ClassId} {dI : Nat → Nat → Nat} {cB cI cJ cZ cS : ClassId} {h : Nat} {a : Nat → Nat} {as : List Value} {r : Int32} {s' : RS} {k26 : RS → Int32 → Int32 → Int32 → Option (Int32 × RS)} (hk26 : ∀ (s : RS) (x1 : Int32) (x2 : Int32) (x3 : Int32), k26 s x1 x2 x3 = some (r, s') → BlkI l yX11_mayAt wsX11_mayAt ({ frames := 1, cells := 0, slots := 0, locals := 22 }) cX11_mayAt 4 (some .int) (dC, dI) (tysA cB cI cJ cZ cS) as 26 (mwS cB cI cJ cZ h a s) [(0, .ref h), (1, .int x1), (2, .int x2), (3, .int x3)] [] (fun x u => x = r ∧ u = (mwS cB cI cJ cZ h a s'))) (s : RS) (x1 : Int32) (x2 : Int32) (x3 : Int32) (hB : r_mayAt_60 k26 s x1 x2 x3 = some (r, s')) : BlkI l yX11_mayAt wsX11_mayAt ({ frames := 1, cells := 0, slots := 0, locals := 22 }) cX11_mayAt 4 (some .int) (dC, dI) (tysA cB cI cJ cZ cS) as 60 (mwS cB cI cJ cZ h a s) [(0, .ref h), (1, .int x1), (2, .int x2), (3, .int x3)] [] (fun x u => x = r ∧ u = (mwS cB cI cJ cZ h a s')) := by
  intro p e s0 m below meth c A E H locs ls hP hD hS hl
  obtain ⟨C, hr, hlocks, hA, hK, hN⟩ := id E
  obtain ⟨hx, hb, hml, hown, hts⟩ := id C
  unfold r_mayAt_60 at hB
  refine lv_iinc (v := (x3 + 1)) (lv' := [(3, .int (x3 + 1)), (0, .ref h), (1, .int x1), (2, .int x2)]) hx hb dX11_mayAt_60 hl (k := 3) rfl (rfl) (by decide) rfl (fun ls hl => ?_)
  refine lv_goto (tgt := 26) hx hb dX11_mayAt_63 (by decide) ?_
  exact hk26 _ _ _ _ hB p e s0 m below meth c A E H locs ls hP hD hS (lv_sub hl [1, 2, 3, 0] rfl)
set_option maxHeartbeats 4000000 in
set_option maxRecDepth 100000 in
theorem br_mayAt_26 {l : Launch} {dC : Nat → ClassId} {dI : Nat → Nat → Nat} {cB cI cJ cZ cS : ClassId} {h : Nat} {a : Nat → Nat} {as : List Value} {r : Int32} {s' : RS} {k26 : RS → Int32 → Int32 → Int32 → Option (Int32 × RS)} (hk26 : ∀ (s : RS) (x1 : Int32) (x2 : Int32) (x3 : Int32), k26 s x1 x2 x3 = some (r, s') → BlkI l yX11_mayAt wsX11_mayAt ({ frames := 1, cells := 0, slots := 0, locals := 22 }) cX11_mayAt 4 (some .int) (dC, dI) (tysA cB cI cJ cZ cS) as 26 (mwS cB cI cJ cZ h a s) [(0, .ref h), (1, .int x1), (2, .int x2), (3, .int x3)] [] (fun x u => x = r ∧ u = (mwS cB cI cJ cZ h a s'))) (s : RS) (x1 : Int32) (x2 : Int32) (x3 : Int32) (hB : r_mayAt_26 k26 s x1 x2 x3 = some (r, s')) : BlkI l yX11_mayAt wsX11_mayAt ({ frames := 1, cells := 0, slots := 0, locals := 22 }) cX11_mayAt 4 (some .int) (dC, dI) (tysA cB cI cJ cZ cS) as 26 (mwS cB cI cJ cZ h a s) [(0, .ref h), (1, .int x1), (2, .int x2), (3, .int x3)] [] (fun x u => x = r ∧ u = (mwS cB cI cJ cZ h a s')) := by
  intro p e s0 m below meth c A E H locs ls hP hD hS hl
  obtain ⟨C, hr, hlocks, hA, hK, hN⟩ := id E
  obtain ⟨hx, hb, hml, hown, hts⟩ := id C
  unfold r_mayAt_26 at hB
  refine lv_iload_n hx hb dX11_mayAt_26 rfl (lv_at hl 3 rfl) ?_
  refine lv_bipush (v := 6) hx hb dX11_mayAt_27 (by decide) ?_
  refine lv_icmp_ge (tgt := 66) hx hb dX11_mayAt_29 (by decide) (fun c1 => ?_) (fun c1 => ?_)
  · have hB := if_p hB c1
    refine lv_iload_n hx hb dX11_mayAt_66 rfl (lv_at hl 2 rfl) ?_
    exact q_iret C hr hlocks hK hP hD hS (Nat.le_of_ble_eq_true rfl) (Nat.le_of_ble_eq_true rfl) dX11_mayAt_67 (by cases hB; exact ⟨rfl, rfl⟩)
  · have hB := if_n hB c1
    refine lv_aload_n hx hb dX11_mayAt_32 rfl (lv_at hl 0 rfl) ?_
    refine lv_iload_n hx hb dX11_mayAt_33 rfl (lv_at hl 1 rfl) ?_
    refine lv_iload_n hx hb dX11_mayAt_34 rfl (lv_at hl 3 rfl) ?_
    obtain ⟨q_, s2, hc, hB⟩ := bindI_inv hB
    refine q_goiF (va_runV (As := [.int x1, .int x3]) (rest := []) C (cr_oddsAt hc _) (cwV 2 hts gX11_mayAt_X11_oddsAt rfl rfl rfl (by decide +kernel) ⟨Nat.le_of_ble_eq_true rfl, Nat.le_of_ble_eq_true rfl⟩) (q_preV hK hP (ci := 11) (q0 := 0) rfl rfl rfl (q_preF hN hK hP hD)) rfl rfl hl.1 rfl (lv_room (Nat.le_of_ble_eq_true rfl)) dX11_mayAt_35 ⟨Nat.le_of_ble_eq_true rfl, Nat.le_of_ble_eq_true rfl⟩) hD hS hA (fun r3 w1 H locs hw hP hD hS => ?_)
    obtain ⟨hq_, hw⟩ := hw; subst hw; subst hq_
    refine lv_if_le (tgt := 60) hx hb dX11_mayAt_38 (by decide) (fun c4 => ?_) (fun c4 => ?_)
    · have hB := if_p hB c4
      exact br_mayAt_60 (hk26) _ _ _ _ hB p e s0 m below meth c A E H locs ls hP hD hS (lv_sub hl [0, 1, 2, 3] rfl)
    · have hB := if_n hB c4
      refine lv_aload_n hx hb dX11_mayAt_41 rfl (lv_at hl 0 rfl) ?_
      refine q_get (v := .ref (a 44)) C inX11_mayAt_X11 hK hP 0 rfl rfl 44 (by decide) rfl LX11_mayAt_101 rfl dX11_mayAt_42 ?_
      refine lv_iload_n hx hb dX11_mayAt_45 rfl (lv_at hl 1 rfl) ?_
      obtain ⟨g5, hB⟩ := guard_inv hB
      refine q_iald (x := (s2.f 44 (Int32.toNatClampNeg x1))) C hK hP 28 1 rfl rfl (vpb_in g5) dX11_mayAt_46 rfl ?_
      refine lv_iload_n hx hb dX11_mayAt_47 rfl (lv_at hl 3 rfl) ?_
      refine lv_ishr hx hb dX11_mayAt_48 ?_
      refine lv_iconst (v := 1) hx hb dX11_mayAt_49 (by decide) ?_
      refine lv_iand hx hb dX11_mayAt_50 ?_
      refine lv_if_ne (tgt := 60) hx hb dX11_mayAt_51 (by decide) (fun c6 => ?_) (fun c6 => ?_)
      · have hB := if_n hB c6
        exact br_mayAt_60 (hk26) _ _ _ _ hB p e s0 m below meth c A E H locs ls hP hD hS (lv_sub hl [0, 1, 2, 3] rfl)
      · have hB := if_p hB c6
        refine lv_iload_n hx hb dX11_mayAt_54 rfl (lv_at hl 2 rfl) ?_
        refine lv_iconst (v := 1) hx hb dX11_mayAt_55 (by decide) ?_
        refine lv_iload_n hx hb dX11_mayAt_56 rfl (lv_at hl 3 rfl) ?_
        refine lv_ishl hx hb dX11_mayAt_57 ?_
        refine lv_ior hx hb dX11_mayAt_58 ?_
        refine lv_istore_n (lv' := [(2, .int (x2 ||| (1 <<< (x3 &&& 31)))), (0, .ref h), (1, .int x1), (3, .int x3)]) hx hb dX11_mayAt_59 rfl hl (by decide) rfl (fun ls hl => ?_)
        exact br_mayAt_60 (hk26) _ _ _ _ hB p e s0 m below meth c A E H locs ls hP hD hS (lv_sub hl [1, 2, 0, 3] rfl)
theorem br_mayAt_26L {l : Launch} {dC : Nat → ClassId} {dI : Nat → Nat → Nat} {cB cI cJ cZ cS : ClassId} {h : Nat} {a : Nat → Nat} {as : List Value} {r : Int32} {s' : RS} : ∀ (n : Nat) (s : RS) (x1 : Int32) (x2 : Int32) (x3 : Int32), r_mayAt_26L n s x1 x2 x3 = some (r, s') → BlkI l yX11_mayAt wsX11_mayAt ({ frames := 1, cells := 0, slots := 0, locals := 22 }) cX11_mayAt 4 (some .int) (dC, dI) (tysA cB cI cJ cZ cS) as 26 (mwS cB cI cJ cZ h a s) [(0, .ref h), (1, .int x1), (2, .int x2), (3, .int x3)] [] (fun x u => x = r ∧ u = (mwS cB cI cJ cZ h a s')) := by
  intro n
  induction n with
  | zero => intro s x1 x2 x3 hB; exact none_ne hB
  | succ n ih => intro s x1 x2 x3 hB; exact br_mayAt_26 ih _ _ _ _ hB
set_option maxHeartbeats 4000000 in
set_option maxRecDepth 100000 in
theorem br_mayAt {l : Launch} {dC : Nat → ClassId} {dI : Nat → Nat → Nat} {cB cI cJ cZ cS : ClassId} {h : Nat} {a : Nat → Nat} {as : List Value} {r : Int32} {s' : RS} (s : RS) (x1 : Int32) (hB : r_mayAt s x1 = some (r, s')) : BlkI l yX11_mayAt wsX11_mayAt ({ frames := 1, cells := 0, slots := 0, locals := 22 }) cX11_mayAt 4 (some .int) (dC, dI) (tysA cB cI cJ cZ cS) as 0 (mwS cB cI cJ cZ h a s) [(0, .ref h), (1, .int x1)] [] (fun x u => x = r ∧ u = (mwS cB cI cJ cZ h a s')) := by
  intro p e s0 m below meth c A E H locs ls hP hD hS hl
  obtain ⟨C, hr, hlocks, hA, hK, hN⟩ := id E
  obtain ⟨hx, hb, hml, hown, hts⟩ := id C
  unfold r_mayAt at hB
  refine lv_aload_n hx hb dX11_mayAt_0 rfl (lv_at hl 0 rfl) ?_
  refine q_get (v := .ref (a 44)) C inX11_mayAt_X11 hK hP 0 rfl rfl 44 (by decide) rfl LX11_mayAt_101 rfl dX11_mayAt_1 ?_
  refine lv_iconst (v := 5) hx hb dX11_mayAt_4 (by decide) ?_
  refine lv_iload_n hx hb dX11_mayAt_5 rfl (lv_at hl 1 rfl) ?_
  refine lv_iadd hx hb dX11_mayAt_6 ?_
  obtain ⟨g1, hB⟩ := guard_inv hB
  refine q_iald (x := (s.f 44 (Int32.toNatClampNeg (5 + x1)))) C hK hP 28 1 rfl rfl (vpb_in g1) dX11_mayAt_7 rfl ?_
  refine lv_if_lt (tgt := 22) hx hb dX11_mayAt_8 (by decide) (fun c2 => ?_) (fun c2 => ?_)
  · have hB := if_p hB c2
    refine lv_iconst (v := 0) hx hb dX11_mayAt_22 (by decide) ?_
    refine lv_istore_n (lv' := [(2, .int 0), (0, .ref h), (1, .int x1)]) hx hb dX11_mayAt_23 rfl hl (by decide) rfl (fun ls hl => ?_)
    refine lv_iconst (v := 0) hx hb dX11_mayAt_24 (by decide) ?_
    refine lv_istore_n (lv' := [(3, .int 0), (2, .int 0), (0, .ref h), (1, .int x1)]) hx hb dX11_mayAt_25 rfl hl (by decide) rfl (fun ls hl => ?_)
    exact br_mayAt_26L fu _ _ _ _ hB p e s0 m below meth c A E H locs ls hP hD hS (lv_sub hl [2, 3, 1, 0] rfl)
  · have hB := if_n hB c2
    refine lv_iconst (v := 1) hx hb dX11_mayAt_11 (by decide) ?_
    refine lv_aload_n hx hb dX11_mayAt_12 rfl (lv_at hl 0 rfl) ?_
    refine q_get (v := .ref (a 44)) C inX11_mayAt_X11 hK hP 0 rfl rfl 44 (by decide) rfl LX11_mayAt_101 rfl dX11_mayAt_13 ?_
    refine lv_iconst (v := 5) hx hb dX11_mayAt_16 (by decide) ?_
    refine lv_iload_n hx hb dX11_mayAt_17 rfl (lv_at hl 1 rfl) ?_
    refine lv_iadd hx hb dX11_mayAt_18 ?_
    obtain ⟨g3, hB⟩ := guard_inv hB
    refine q_iald (x := (s.f 44 (Int32.toNatClampNeg (5 + x1)))) C hK hP 28 1 rfl rfl (vpb_in g3) dX11_mayAt_19 rfl ?_
    refine lv_ishl hx hb dX11_mayAt_20 ?_
    exact q_iret C hr hlocks hK hP hD hS (Nat.le_of_ble_eq_true rfl) (Nat.le_of_ble_eq_true rfl) dX11_mayAt_21 (by cases hB; exact ⟨rfl, rfl⟩)
theorem cr_mayAt {l : Launch} {dC : Nat → ClassId} {dI : Nat → Nat → Nat} {cB cI cJ cZ cS : ClassId} {h : Nat} {a : Nat → Nat} {r : Int32} {s' : RS} {s : RS} {x1 : Int32} (hB : r_mayAt s x1 = some (r, s')) : CI l yX11_mayAt wsX11_mayAt ({ frames := 1, cells := 0, slots := 0, locals := 22 }) (dC, dI) (tysA cB cI cJ cZ cS) (mwS cB cI cJ cZ h a s) [.ref h, .int x1] (fun x u => x = r ∧ u = (mwS cB cI cJ cZ h a s')) :=
  CI_of (cc := cX11_mayAt) (maxL := 4) (ret := (some .int)) (by decide) rfl (Nat.le_of_ble_eq_true rfl) (br_mayAt _ _ hB)
theorem LX11_lawTells_215 : Cond.fieldLink RX11 215 "GuessFerryModel" "live" "I" ∈ wsX11_lawTells := by decide +kernel
theorem LX11_lawTells_277 : Cond.fieldLink RX11 277 "GuessFerryModel" "isBroken" "Z" ∈ wsX11_lawTells := by decide +kernel
theorem LX11_lawTells_61 : Cond.fieldLink RX11 61 "GuessFerryModel" "lawFirst" "[I" ∈ wsX11_lawTells := by decide +kernel
theorem LX11_lawTells_64 : Cond.fieldLink RX11 64 "GuessFerryModel" "lawLast" "[I" ∈ wsX11_lawTells := by decide +kernel
theorem LX11_lawTells_67 : Cond.fieldLink RX11 67 "GuessFerryModel" "hasTest" "[Z" ∈ wsX11_lawTells := by decide +kernel
theorem LX11_lawTells_71 : Cond.fieldLink RX11 71 "GuessFerryModel" "testFrom" "[I" ∈ wsX11_lawTells := by decide +kernel
theorem LX11_lawTells_74 : Cond.fieldLink RX11 74 "GuessFerryModel" "testMid" "[I" ∈ wsX11_lawTells := by decide +kernel
theorem LX11_lawTells_77 : Cond.fieldLink RX11 77 "GuessFerryModel" "testTo" "[I" ∈ wsX11_lawTells := by decide +kernel
theorem LX11_lawTells_80 : Cond.fieldLink RX11 80 "GuessFerryModel" "termTo" "[I" ∈ wsX11_lawTells := by decide +kernel
theorem inX11_lawTells_X11 : ∀ w ∈ u_ws RX11 TX11 58, w ∈ wsX11_lawTells := by decide +kernel
set_option maxHeartbeats 4000000 in
set_option maxRecDepth 100000 in
theorem br_lawTells_119 {l : Launch} {dC : Nat → ClassId} {dI : Nat → Nat → Nat} {cB cI cJ cZ cS : ClassId} {h : Nat} {a : Nat → Nat} {as : List Value} {r : Int32} {s' : RS} (s : RS) (x4 : Int32) (hB : r_lawTells_119 s x4 = some (r, s')) : BlkI l yX11_lawTells wsX11_lawTells ({ frames := 1, cells := 0, slots := 0, locals := 27 }) cX11_lawTells 7 (some .int) (dC, dI) (tysA cB cI cJ cZ cS) as 119 (mwS cB cI cJ cZ h a s) [(0, .ref h), (4, .int x4)] [] (fun x u => x = r ∧ u = (mwS cB cI cJ cZ h a s')) := by
  intro p e s0 m below meth c A E H locs ls hP hD hS hl
  obtain ⟨C, hr, hlocks, hA, hK, hN⟩ := id E
  obtain ⟨hx, hb, hml, hown, hts⟩ := id C
  unfold r_lawTells_119 at hB
  refine lv_aload_n hx hb dX11_lawTells_119 rfl (lv_at hl 0 rfl) ?_
  refine lv_aload_n hx hb dX11_lawTells_120 rfl (lv_at hl 0 rfl) ?_
  refine q_get (v := .ref (a 33)) C inX11_lawTells_X11 hK hP 0 rfl rfl 33 (by decide) rfl LX11_lawTells_77 rfl dX11_lawTells_121 ?_
  refine lv_iload hx hb dX11_lawTells_124 (lv_at hl 1 rfl) ?_
  obtain ⟨g1, hB⟩ := guard_inv hB
  refine q_iald (x := (s.f 33 (Int32.toNatClampNeg x4))) C hK hP 20 1 rfl rfl (vpb_in g1) dX11_lawTells_126 rfl ?_
  refine lv_aload_n hx hb dX11_lawTells_127 rfl (lv_at hl 0 rfl) ?_
  refine q_get (v := .ref (a 34)) C inX11_lawTells_X11 hK hP 0 rfl rfl 34 (by decide) rfl LX11_lawTells_80 rfl dX11_lawTells_128 ?_
  refine lv_iload hx hb dX11_lawTells_131 (lv_at hl 1 rfl) ?_
  obtain ⟨g2, hB⟩ := guard_inv hB
  refine q_iald (x := (s.f 34 (Int32.toNatClampNeg x4))) C hK hP 21 1 rfl rfl (vpb_in g2) dX11_lawTells_133 rfl ?_
  obtain ⟨q_, s3, hc, hB⟩ := bindI_inv hB
  refine q_goiF (va_runV (As := [.int (s.f 33 (Int32.toNatClampNeg x4)), .int (s.f 34 (Int32.toNatClampNeg x4))]) (rest := []) C (cr_termOf hc _) (cwV 2 hts gX11_lawTells_X11_termOf rfl rfl rfl (by decide +kernel) ⟨Nat.le_of_ble_eq_true rfl, Nat.le_of_ble_eq_true rfl⟩) (q_preV hK hP (ci := 11) (q0 := 0) rfl rfl rfl (q_preF hN hK hP hD)) rfl rfl hl.1 rfl (lv_room (Nat.le_of_ble_eq_true rfl)) dX11_lawTells_134 ⟨Nat.le_of_ble_eq_true rfl, Nat.le_of_ble_eq_true rfl⟩) hD hS hA (fun r4 w1 H locs hw hP hD hS => ?_)
  obtain ⟨hq_, hw⟩ := hw; subst hw; subst hq_
  refine lv_istore (lv' := [(5, .int r4), (0, .ref h), (4, .int x4)]) hx hb dX11_lawTells_137 hl (by decide) rfl (fun ls hl => ?_)
  refine lv_aload_n hx hb dX11_lawTells_139 rfl (lv_at hl 1 rfl) ?_
  refine q_get (v := .int (s3.v 42)) C inX11_lawTells_X11 hK hP 0 rfl rfl 42 (by decide) rfl LX11_lawTells_277 rfl dX11_lawTells_140 ?_
  refine lv_if_eq (tgt := 150) hx hb dX11_lawTells_143 (by decide) (fun c5 => ?_) (fun c5 => ?_)
  · have hB := if_p hB c5
    refine lv_iload hx hb dX11_lawTells_150 (lv_at hl 0 rfl) ?_
    exact q_iret C hr hlocks hK hP hD hS (Nat.le_of_ble_eq_true rfl) (Nat.le_of_ble_eq_true rfl) dX11_lawTells_152 (by cases hB; exact ⟨rfl, rfl⟩)
  · have hB := if_n hB c5
    refine lv_iconst (v := 0) hx hb dX11_lawTells_146 (by decide) ?_
    refine lv_goto (tgt := 152) hx hb dX11_lawTells_147 (by decide) ?_
    exact q_iret C hr hlocks hK hP hD hS (Nat.le_of_ble_eq_true rfl) (Nat.le_of_ble_eq_true rfl) dX11_lawTells_152 (by cases hB; exact ⟨rfl, rfl⟩)
set_option maxHeartbeats 4000000 in
set_option maxRecDepth 100000 in
theorem br_lawTells_39 {l : Launch} {dC : Nat → ClassId} {dI : Nat → Nat → Nat} {cB cI cJ cZ cS : ClassId} {h : Nat} {a : Nat → Nat} {as : List Value} {r : Int32} {s' : RS} {k39 : RS → Int32 → Int32 → Option (Int32 × RS)} (hk39 : ∀ (s : RS) (x3 : Int32) (x4 : Int32), k39 s x3 x4 = some (r, s') → BlkI l yX11_lawTells wsX11_lawTells ({ frames := 1, cells := 0, slots := 0, locals := 27 }) cX11_lawTells 7 (some .int) (dC, dI) (tysA cB cI cJ cZ cS) as 39 (mwS cB cI cJ cZ h a s) [(0, .ref h), (3, .int x3), (4, .int x4)] [] (fun x u => x = r ∧ u = (mwS cB cI cJ cZ h a s'))) (s : RS) (x3 : Int32) (x4 : Int32) (hB : r_lawTells_39 k39 s x3 x4 = some (r, s')) : BlkI l yX11_lawTells wsX11_lawTells ({ frames := 1, cells := 0, slots := 0, locals := 27 }) cX11_lawTells 7 (some .int) (dC, dI) (tysA cB cI cJ cZ cS) as 39 (mwS cB cI cJ cZ h a s) [(0, .ref h), (3, .int x3), (4, .int x4)] [] (fun x u => x = r ∧ u = (mwS cB cI cJ cZ h a s')) := by
  intro p e s0 m below meth c A E H locs ls hP hD hS hl
  obtain ⟨C, hr, hlocks, hA, hK, hN⟩ := id E
  obtain ⟨hx, hb, hml, hown, hts⟩ := id C
  unfold r_lawTells_39 at hB
  refine lv_iload hx hb dX11_lawTells_39 (lv_at hl 2 rfl) ?_
  refine lv_aload_n hx hb dX11_lawTells_41 rfl (lv_at hl 0 rfl) ?_
  refine q_get (v := .ref (a 28)) C inX11_lawTells_X11 hK hP 0 rfl rfl 28 (by decide) rfl LX11_lawTells_64 rfl dX11_lawTells_42 ?_
  refine lv_iload_n hx hb dX11_lawTells_45 rfl (lv_at hl 1 rfl) ?_
  obtain ⟨g1, hB⟩ := guard_inv hB
  refine q_iald (x := (s.f 28 (Int32.toNatClampNeg x3))) C hK hP 16 1 rfl rfl (vpb_in g1) dX11_lawTells_46 rfl ?_
  refine lv_icmp_ge (tgt := 159) hx hb dX11_lawTells_47 (by decide) (fun c2 => ?_) (fun c2 => ?_)
  · have hB := if_p hB c2
    refine lv_iconst (v := 0) hx hb dX11_lawTells_159 (by decide) ?_
    exact q_iret C hr hlocks hK hP hD hS (Nat.le_of_ble_eq_true rfl) (Nat.le_of_ble_eq_true rfl) dX11_lawTells_160 (by cases hB; exact ⟨rfl, rfl⟩)
  · have hB := if_n hB c2
    refine lv_aload_n hx hb dX11_lawTells_50 rfl (lv_at hl 0 rfl) ?_
    refine q_get (v := .ref (a 30)) C inX11_lawTells_X11 hK hP 0 rfl rfl 30 (by decide) rfl LX11_lawTells_67 rfl dX11_lawTells_51 ?_
    refine lv_iload hx hb dX11_lawTells_54 (lv_at hl 2 rfl) ?_
    obtain ⟨g3, hB⟩ := guard_inv hB
    refine q_zald (x := (s.f 30 (Int32.toNatClampNeg x4))) C hK hP 17 3 rfl rfl (vpb_in g3) dX11_lawTells_56 rfl ?_
    refine lv_if_eq (tgt := 119) hx hb dX11_lawTells_57 (by decide) (fun c4 => ?_) (fun c4 => ?_)
    · have hB := if_p hB c4
      exact br_lawTells_119 _ _ hB p e s0 m below meth c A E H locs ls hP hD hS (lv_sub hl [0, 2] rfl)
    · have hB := if_n hB c4
      refine lv_aload_n hx hb dX11_lawTells_60 rfl (lv_at hl 0 rfl) ?_
      refine lv_aload_n hx hb dX11_lawTells_61 rfl (lv_at hl 0 rfl) ?_
      refine q_get (v := .ref (a 31)) C inX11_lawTells_X11 hK hP 0 rfl rfl 31 (by decide) rfl LX11_lawTells_71 rfl dX11_lawTells_62 ?_
      refine lv_iload hx hb dX11_lawTells_65 (lv_at hl 2 rfl) ?_
      obtain ⟨g5, hB⟩ := guard_inv hB
      refine q_iald (x := (s.f 31 (Int32.toNatClampNeg x4))) C hK hP 18 1 rfl rfl (vpb_in g5) dX11_lawTells_67 rfl ?_
      refine lv_aload_n hx hb dX11_lawTells_68 rfl (lv_at hl 0 rfl) ?_
      refine q_get (v := .ref (a 32)) C inX11_lawTells_X11 hK hP 0 rfl rfl 32 (by decide) rfl LX11_lawTells_74 rfl dX11_lawTells_69 ?_
      refine lv_iload hx hb dX11_lawTells_72 (lv_at hl 2 rfl) ?_
      obtain ⟨g6, hB⟩ := guard_inv hB
      refine q_iald (x := (s.f 32 (Int32.toNatClampNeg x4))) C hK hP 19 1 rfl rfl (vpb_in g6) dX11_lawTells_74 rfl ?_
      obtain ⟨q_, s7, hc, hB⟩ := bindI_inv hB
      refine q_goiF (va_runV (As := [.int (s.f 31 (Int32.toNatClampNeg x4)), .int (s.f 32 (Int32.toNatClampNeg x4))]) (rest := []) C (cr_termOf hc _) (cwV 2 hts gX11_lawTells_X11_termOf rfl rfl rfl (by decide +kernel) ⟨Nat.le_of_ble_eq_true rfl, Nat.le_of_ble_eq_true rfl⟩) (q_preV hK hP (ci := 11) (q0 := 0) rfl rfl rfl (q_preF hN hK hP hD)) rfl rfl hl.1 rfl (lv_room (Nat.le_of_ble_eq_true rfl)) dX11_lawTells_75 ⟨Nat.le_of_ble_eq_true rfl, Nat.le_of_ble_eq_true rfl⟩) hD hS hA (fun r8 w1 H locs hw hP hD hS => ?_)
      obtain ⟨hq_, hw⟩ := hw; subst hw; subst hq_
      refine lv_istore (lv' := [(5, .int r8), (0, .ref h), (3, .int x3), (4, .int x4)]) hx hb dX11_lawTells_78 hl (by decide) rfl (fun ls hl => ?_)
      refine lv_aload_n hx hb dX11_lawTells_80 rfl (lv_at hl 1 rfl) ?_
      refine lv_aload_n hx hb dX11_lawTells_81 rfl (lv_at hl 1 rfl) ?_
      refine q_get (v := .ref (a 32)) C inX11_lawTells_X11 hK hP 0 rfl rfl 32 (by decide) rfl LX11_lawTells_74 rfl dX11_lawTells_82 ?_
      refine lv_iload hx hb dX11_lawTells_85 (lv_at hl 3 rfl) ?_
      obtain ⟨g9, hB⟩ := guard_inv hB
      refine q_iald (x := (s7.f 32 (Int32.toNatClampNeg x4))) C hK hP 19 1 rfl rfl (vpb_in g9) dX11_lawTells_87 rfl ?_
      refine lv_aload_n hx hb dX11_lawTells_88 rfl (lv_at hl 1 rfl) ?_
      refine q_get (v := .ref (a 33)) C inX11_lawTells_X11 hK hP 0 rfl rfl 33 (by decide) rfl LX11_lawTells_77 rfl dX11_lawTells_89 ?_
      refine lv_iload hx hb dX11_lawTells_92 (lv_at hl 3 rfl) ?_
      obtain ⟨g10, hB⟩ := guard_inv hB
      refine q_iald (x := (s7.f 33 (Int32.toNatClampNeg x4))) C hK hP 20 1 rfl rfl (vpb_in g10) dX11_lawTells_94 rfl ?_
      obtain ⟨q_, s11, hc, hB⟩ := bindI_inv hB
      refine q_goiF (va_runV (As := [.int (s7.f 32 (Int32.toNatClampNeg x4)), .int (s7.f 33 (Int32.toNatClampNeg x4))]) (rest := []) C (cr_termOf hc _) (cwV 2 hts gX11_lawTells_X11_termOf rfl rfl rfl (by decide +kernel) ⟨Nat.le_of_ble_eq_true rfl, Nat.le_of_ble_eq_true rfl⟩) (q_preV hK hP (ci := 11) (q0 := 0) rfl rfl rfl (q_preF hN hK hP hD)) rfl rfl hl.1 rfl (lv_room (Nat.le_of_ble_eq_true rfl)) dX11_lawTells_95 ⟨Nat.le_of_ble_eq_true rfl, Nat.le_of_ble_eq_true rfl⟩) hD hS hA (fun r12 w1 H locs hw hP hD hS => ?_)
      obtain ⟨hq_, hw⟩ := hw; subst hw; subst hq_
      refine lv_istore (lv' := [(6, .int r12), (5, .int r8), (0, .ref h), (3, .int x3), (4, .int x4)]) hx hb dX11_lawTells_98 hl (by decide) rfl (fun ls hl => ?_)
      refine lv_aload_n hx hb dX11_lawTells_100 rfl (lv_at hl 2 rfl) ?_
      refine q_get (v := .int (s11.v 42)) C inX11_lawTells_X11 hK hP 0 rfl rfl 42 (by decide) rfl LX11_lawTells_277 rfl dX11_lawTells_101 ?_
      refine lv_if_eq (tgt := 109) hx hb dX11_lawTells_104 (by decide) (fun c13 => ?_) (fun c13 => ?_)
      · have hB := if_p hB c13
        refine lv_iload hx hb dX11_lawTells_109 (lv_at hl 1 rfl) ?_
        refine lv_iload hx hb dX11_lawTells_111 (lv_at hl 0 rfl) ?_
        refine lv_icmp_lt (tgt := 119) hx hb dX11_lawTells_113 (by decide) (fun c14 => ?_) (fun c14 => ?_)
        · have hB := if_p hB c14
          exact br_lawTells_119 _ _ hB p e s0 m below meth c A E H locs ls hP hD hS (lv_sub hl [2, 4] rfl)
        · have hB := if_n hB c14
          refine lv_goto (tgt := 153) hx hb dX11_lawTells_116 (by decide) ?_
          refine lv_iinc (v := (x4 + 1)) (lv' := [(4, .int (x4 + 1)), (6, .int r12), (5, .int r8), (0, .ref h), (3, .int x3)]) hx hb dX11_lawTells_153 hl (k := 4) rfl (rfl) (by decide) rfl (fun ls hl => ?_)
          refine lv_goto (tgt := 39) hx hb dX11_lawTells_156 (by decide) ?_
          exact hk39 _ _ _ hB p e s0 m below meth c A E H locs ls hP hD hS (lv_sub hl [3, 4, 0] rfl)
      · have hB := if_n hB c13
        refine lv_iconst (v := 0) hx hb dX11_lawTells_107 (by decide) ?_
        exact q_iret C hr hlocks hK hP hD hS (Nat.le_of_ble_eq_true rfl) (Nat.le_of_ble_eq_true rfl) dX11_lawTells_108 (by cases hB; exact ⟨rfl, rfl⟩)
theorem br_lawTells_39L {l : Launch} {dC : Nat → ClassId} {dI : Nat → Nat → Nat} {cB cI cJ cZ cS : ClassId} {h : Nat} {a : Nat → Nat} {as : List Value} {r : Int32} {s' : RS} : ∀ (n : Nat) (s : RS) (x3 : Int32) (x4 : Int32), r_lawTells_39L n s x3 x4 = some (r, s') → BlkI l yX11_lawTells wsX11_lawTells ({ frames := 1, cells := 0, slots := 0, locals := 27 }) cX11_lawTells 7 (some .int) (dC, dI) (tysA cB cI cJ cZ cS) as 39 (mwS cB cI cJ cZ h a s) [(0, .ref h), (3, .int x3), (4, .int x4)] [] (fun x u => x = r ∧ u = (mwS cB cI cJ cZ h a s')) := by
  intro n
  induction n with
  | zero => intro s x3 x4 hB; exact none_ne hB
  | succ n ih => intro s x3 x4 hB; exact br_lawTells_39 ih _ _ _ hB
set_option maxHeartbeats 4000000 in
set_option maxRecDepth 100000 in
theorem br_lawTells {l : Launch} {dC : Nat → ClassId} {dI : Nat → Nat → Nat} {cB cI cJ cZ cS : ClassId} {h : Nat} {a : Nat → Nat} {as : List Value} {r : Int32} {s' : RS} (s : RS) (x1 : Int32) (x2 : Int32) (hB : r_lawTells s x1 x2 = some (r, s')) : BlkI l yX11_lawTells wsX11_lawTells ({ frames := 1, cells := 0, slots := 0, locals := 27 }) cX11_lawTells 7 (some .int) (dC, dI) (tysA cB cI cJ cZ cS) as 0 (mwS cB cI cJ cZ h a s) [(0, .ref h), (1, .int x1), (2, .int x2)] [] (fun x u => x = r ∧ u = (mwS cB cI cJ cZ h a s')) := by
  intro p e s0 m below meth c A E H locs ls hP hD hS hl
  obtain ⟨C, hr, hlocks, hA, hK, hN⟩ := id E
  obtain ⟨hx, hb, hml, hown, hts⟩ := id C
  unfold r_lawTells at hB
  refine lv_iconst (v := 4) hx hb dX11_lawTells_0 (by decide) ?_
  refine lv_aload_n hx hb dX11_lawTells_1 rfl (lv_at hl 0 rfl) ?_
  refine q_get (v := .int (s.v 18)) C inX11_lawTells_X11 hK hP 0 rfl rfl 18 (by decide) rfl LX11_lawTells_215 rfl dX11_lawTells_2 ?_
  refine lv_imul hx hb dX11_lawTells_5 ?_
  refine lv_iload_n hx hb dX11_lawTells_6 rfl (lv_at hl 1 rfl) ?_
  refine lv_iadd hx hb dX11_lawTells_7 ?_
  refine lv_istore_n (lv' := [(3, .int ((4 * (s.v 18)) + x1)), (0, .ref h), (1, .int x1), (2, .int x2)]) hx hb dX11_lawTells_8 rfl hl (by decide) rfl (fun ls hl => ?_)
  refine lv_aload_n hx hb dX11_lawTells_9 rfl (lv_at hl 1 rfl) ?_
  refine q_get (v := .ref (a 27)) C inX11_lawTells_X11 hK hP 0 rfl rfl 27 (by decide) rfl LX11_lawTells_61 rfl dX11_lawTells_10 ?_
  refine lv_iload_n hx hb dX11_lawTells_13 rfl (lv_at hl 0 rfl) ?_
  obtain ⟨g1, hB⟩ := guard_inv hB
  refine q_iald (x := (s.f 27 (Int32.toNatClampNeg ((4 * (s.v 18)) + x1)))) C hK hP 15 1 rfl rfl (vpb_in g1) dX11_lawTells_14 rfl ?_
  refine lv_aload_n hx hb dX11_lawTells_15 rfl (lv_at hl 1 rfl) ?_
  refine q_get (v := .ref (a 28)) C inX11_lawTells_X11 hK hP 0 rfl rfl 28 (by decide) rfl LX11_lawTells_64 rfl dX11_lawTells_16 ?_
  refine lv_iload_n hx hb dX11_lawTells_19 rfl (lv_at hl 0 rfl) ?_
  obtain ⟨g2, hB⟩ := guard_inv hB
  refine q_iald (x := (s.f 28 (Int32.toNatClampNeg ((4 * (s.v 18)) + x1)))) C hK hP 16 1 rfl rfl (vpb_in g2) dX11_lawTells_20 rfl ?_
  refine lv_icmp_ne (tgt := 26) hx hb dX11_lawTells_21 (by decide) (fun c3 => ?_) (fun c3 => ?_)
  · have hB := if_n hB c3
    refine lv_aload_n hx hb dX11_lawTells_26 rfl (lv_at hl 1 rfl) ?_
    refine lv_iconst (v := 0) hx hb dX11_lawTells_27 (by decide) ?_
    obtain ⟨s4, hs5, hB⟩ := letS_inv hB
    refine q_put (ty := .boolean) (w2 := (mwS cB cI cJ cZ h a s4)) tyX11 tyX11_ok nmX11 C inX11_lawTells_X11 hK hP hD hS 0 rfl rfl 42 (by decide) rfl LX11_lawTells_277 rfl (by decide +kernel) (by decide +kernel) rfl (Nat.le_of_ble_eq_true rfl) dX11_lawTells_28 (mwS_v42 hs5) (fun H locs hP hD hS => ?_)
    refine lv_aload_n hx hb dX11_lawTells_31 rfl (lv_at hl 1 rfl) ?_
    refine q_get (v := .ref (a 27)) C inX11_lawTells_X11 hK hP 0 rfl rfl 27 (by decide) rfl LX11_lawTells_61 rfl dX11_lawTells_32 ?_
    refine lv_iload_n hx hb dX11_lawTells_35 rfl (lv_at hl 0 rfl) ?_
    obtain ⟨g6, hB⟩ := guard_inv hB
    refine q_iald (x := (s4.f 27 (Int32.toNatClampNeg ((4 * (s.v 18)) + x1)))) C hK hP 15 1 rfl rfl (vpb_in g6) dX11_lawTells_36 rfl ?_
    refine lv_istore (lv' := [(4, .int (s4.f 27 (Int32.toNatClampNeg ((4 * (s.v 18)) + x1)))), (3, .int ((4 * (s.v 18)) + x1)), (0, .ref h), (1, .int x1), (2, .int x2)]) hx hb dX11_lawTells_37 hl (by decide) rfl (fun ls hl => ?_)
    exact br_lawTells_39L fu _ _ _ hB p e s0 m below meth c A E H locs ls hP hD hS (lv_sub hl [2, 1, 0] rfl)
  · have hB := if_p hB c3
    refine lv_iload_n hx hb dX11_lawTells_24 rfl (lv_at hl 3 rfl) ?_
    exact q_iret C hr hlocks hK hP hD hS (Nat.le_of_ble_eq_true rfl) (Nat.le_of_ble_eq_true rfl) dX11_lawTells_25 (by cases hB; exact ⟨rfl, rfl⟩)
theorem cr_lawTells {l : Launch} {dC : Nat → ClassId} {dI : Nat → Nat → Nat} {cB cI cJ cZ cS : ClassId} {h : Nat} {a : Nat → Nat} {r : Int32} {s' : RS} {s : RS} {x1 : Int32} {x2 : Int32} (hB : r_lawTells s x1 x2 = some (r, s')) : CI l yX11_lawTells wsX11_lawTells ({ frames := 1, cells := 0, slots := 0, locals := 27 }) (dC, dI) (tysA cB cI cJ cZ cS) (mwS cB cI cJ cZ h a s) [.ref h, .int x1, .int x2] (fun x u => x = r ∧ u = (mwS cB cI cJ cZ h a s')) :=
  CI_of (cc := cX11_lawTells) (maxL := 7) (ret := (some .int)) (by decide) rfl (Nat.le_of_ble_eq_true rfl) (br_lawTells _ _ _ hB)
