theorem ggX11_feed_X11_put : GoodIn wsX11_feed wsX11_put := gi_sub (fun w h => List.mem_cons_of_mem _ (List.mem_append_left _ (List.mem_append_right _ h))) gd_wsX11_put
set_option maxRecDepth 20000 in
theorem gX11_feed_X11_put : GoodIn wsX11_feed (wsV RX11 151 RX11 yX11_put wsX11_put) := goodIn_app (goodIn_r _ [2, 3, 4, 5] (by decide +kernel) (by decide +kernel)) ggX11_feed_X11_put
theorem dX11_feed_0 : decode cX11_feed 0 = .ok (.aload_n 0, 1) := dc1_42 (by decide +kernel)
theorem dX11_feed_1 : decode cX11_feed 1 = .ok (.getfield 148, 3) := dcw_180 (by decide +kernel)
theorem dX11_feed_4 : decode cX11_feed 4 = .ok (.bipush 20, 2) := dcb_16 (n := 20) (by decide +kernel)
theorem dX11_feed_6 : decode cX11_feed 6 = .ok (.iadd, 1) := dc1_96 (by decide +kernel)
theorem dX11_feed_7 : decode cX11_feed 7 = .ok (.sipush 2000, 3) := dcs_17 (n := 2000) (by decide +kernel)
theorem dX11_feed_10 : decode cX11_feed 10 = .ok (.if_icmp .le 5, 3) := dcs_164 (n := 5) (by decide +kernel)
theorem dX11_feed_13 : decode cX11_feed 13 = .ok (.iconst (-1), 1) := dc1_2 (by decide +kernel)
theorem dX11_feed_14 : decode cX11_feed 14 = .ok (.ireturn, 1) := dc1_172 (by decide +kernel)
theorem dX11_feed_15 : decode cX11_feed 15 = .ok (.aload_n 0, 1) := dc1_42 (by decide +kernel)
theorem dX11_feed_16 : decode cX11_feed 16 = .ok (.iload_n 1, 1) := dc1_27 (by decide +kernel)
theorem dX11_feed_17 : decode cX11_feed 17 = .ok (.invokevirtual 151, 3) := dcw_182 (by decide +kernel)
theorem dX11_feed_20 : decode cX11_feed 20 = .ok (.aload_n 0, 1) := dc1_42 (by decide +kernel)
theorem dX11_feed_21 : decode cX11_feed 21 = .ok (.iload_n 2, 1) := dc1_28 (by decide +kernel)
theorem dX11_feed_22 : decode cX11_feed 22 = .ok (.invokevirtual 151, 3) := dcw_182 (by decide +kernel)
theorem dX11_feed_25 : decode cX11_feed 25 = .ok (.aload_n 0, 1) := dc1_42 (by decide +kernel)
theorem dX11_feed_26 : decode cX11_feed 26 = .ok (.iload_n 3, 1) := dc1_29 (by decide +kernel)
theorem dX11_feed_27 : decode cX11_feed 27 = .ok (.invokevirtual 151, 3) := dcw_182 (by decide +kernel)
theorem dX11_feed_30 : decode cX11_feed 30 = .ok (.aload_n 0, 1) := dc1_42 (by decide +kernel)
theorem dX11_feed_31 : decode cX11_feed 31 = .ok (.iload 4, 2) := dcu_21 (by decide +kernel)
theorem dX11_feed_33 : decode cX11_feed 33 = .ok (.invokevirtual 151, 3) := dcw_182 (by decide +kernel)
theorem dX11_feed_36 : decode cX11_feed 36 = .ok (.aload_n 0, 1) := dc1_42 (by decide +kernel)
theorem dX11_feed_37 : decode cX11_feed 37 = .ok (.iload 5, 2) := dcu_21 (by decide +kernel)
theorem dX11_feed_39 : decode cX11_feed 39 = .ok (.invokevirtual 151, 3) := dcw_182 (by decide +kernel)
theorem dX11_feed_42 : decode cX11_feed 42 = .ok (.aload_n 0, 1) := dc1_42 (by decide +kernel)
theorem dX11_feed_43 : decode cX11_feed 43 = .ok (.getfield 148, 3) := dcw_180 (by decide +kernel)
theorem dX11_feed_46 : decode cX11_feed 46 = .ok (.ireturn, 1) := dc1_172 (by decide +kernel)
theorem dX11_put_0 : decode cX11_put 0 = .ok (.bipush 24, 2) := dcb_16 (n := 24) (by decide +kernel)
theorem dX11_put_2 : decode cX11_put 2 = .ok (.istore_n 2, 1) := dc1_61 (by decide +kernel)
theorem dX11_put_3 : decode cX11_put 3 = .ok (.iload_n 2, 1) := dc1_28 (by decide +kernel)
theorem dX11_put_4 : decode cX11_put 4 = .ok (.ifCond .lt 32, 3) := dcs_155 (n := 32) (by decide +kernel)
theorem dX11_put_7 : decode cX11_put 7 = .ok (.aload_n 0, 1) := dc1_42 (by decide +kernel)
theorem dX11_put_8 : decode cX11_put 8 = .ok (.getfield 13, 3) := dcw_180 (by decide +kernel)
theorem dX11_put_11 : decode cX11_put 11 = .ok (.aload_n 0, 1) := dc1_42 (by decide +kernel)
theorem dX11_put_12 : decode cX11_put 12 = .ok (.getfield 148, 3) := dcw_180 (by decide +kernel)
theorem dX11_put_15 : decode cX11_put 15 = .ok (.iload_n 1, 1) := dc1_27 (by decide +kernel)
theorem dX11_put_16 : decode cX11_put 16 = .ok (.iload_n 2, 1) := dc1_28 (by decide +kernel)
theorem dX11_put_17 : decode cX11_put 17 = .ok (.ishr, 1) := dc1_122 (by decide +kernel)
theorem dX11_put_18 : decode cX11_put 18 = .ok (.i2b, 1) := dc1_145 (by decide +kernel)
theorem dX11_put_19 : decode cX11_put 19 = .ok (.bastore, 1) := dc1_84 (by decide +kernel)
theorem dX11_put_20 : decode cX11_put 20 = .ok (.aload_n 0, 1) := dc1_42 (by decide +kernel)
theorem dX11_put_21 : decode cX11_put 21 = .ok (.dup, 1) := dc1_89 (by decide +kernel)
theorem dX11_put_22 : decode cX11_put 22 = .ok (.getfield 148, 3) := dcw_180 (by decide +kernel)
theorem dX11_put_25 : decode cX11_put 25 = .ok (.iconst 1, 1) := dc1_4 (by decide +kernel)
theorem dX11_put_26 : decode cX11_put 26 = .ok (.iadd, 1) := dc1_96 (by decide +kernel)
theorem dX11_put_27 : decode cX11_put 27 = .ok (.putfield 148, 3) := dcw_181 (by decide +kernel)
theorem dX11_put_30 : decode cX11_put 30 = .ok (.iinc 2 (-8), 3) := dc_iinc (m := 248) (by decide +kernel)
theorem dX11_put_33 : decode cX11_put 33 = .ok (.goto (-30), 3) := dcs_167 (n := 65506) (by decide +kernel)
theorem dX11_put_36 : decode cX11_put 36 = .ok (.return_, 1) := dc1_177 (by decide +kernel)
theorem dX11_back_0 : decode cX11_back 0 = .ok (.iload_n 1, 1) := dc1_27 (by decide +kernel)
theorem dX11_back_1 : decode cX11_back 1 = .ok (.ifCond .lt 11, 3) := dcs_155 (n := 11) (by decide +kernel)
theorem dX11_back_4 : decode cX11_back 4 = .ok (.iload_n 1, 1) := dc1_27 (by decide +kernel)
theorem dX11_back_5 : decode cX11_back 5 = .ok (.aload_n 0, 1) := dc1_42 (by decide +kernel)
theorem dX11_back_6 : decode cX11_back 6 = .ok (.getfield 148, 3) := dcw_180 (by decide +kernel)
theorem dX11_back_9 : decode cX11_back 9 = .ok (.if_icmp .le 5, 3) := dcs_164 (n := 5) (by decide +kernel)
theorem dX11_back_12 : decode cX11_back 12 = .ok (.iconst (-1), 1) := dc1_2 (by decide +kernel)
theorem dX11_back_13 : decode cX11_back 13 = .ok (.ireturn, 1) := dc1_172 (by decide +kernel)
theorem dX11_back_14 : decode cX11_back 14 = .ok (.aload_n 0, 1) := dc1_42 (by decide +kernel)
theorem dX11_back_15 : decode cX11_back 15 = .ok (.dup, 1) := dc1_89 (by decide +kernel)
theorem dX11_back_16 : decode cX11_back 16 = .ok (.getfield 148, 3) := dcw_180 (by decide +kernel)
theorem dX11_back_19 : decode cX11_back 19 = .ok (.iload_n 1, 1) := dc1_27 (by decide +kernel)
theorem dX11_back_20 : decode cX11_back 20 = .ok (.isub, 1) := dc1_100 (by decide +kernel)
theorem dX11_back_21 : decode cX11_back 21 = .ok (.putfield 148, 3) := dcw_181 (by decide +kernel)
theorem dX11_back_24 : decode cX11_back 24 = .ok (.aload_n 0, 1) := dc1_42 (by decide +kernel)
theorem dX11_back_25 : decode cX11_back 25 = .ok (.getfield 148, 3) := dcw_180 (by decide +kernel)
theorem dX11_back_28 : decode cX11_back 28 = .ok (.ireturn, 1) := dc1_172 (by decide +kernel)
theorem dX11_byteAt_0 : decode cX11_byteAt 0 = .ok (.iload_n 1, 1) := dc1_27 (by decide +kernel)
theorem dX11_byteAt_1 : decode cX11_byteAt 1 = .ok (.aload_n 0, 1) := dc1_42 (by decide +kernel)
theorem dX11_byteAt_2 : decode cX11_byteAt 2 = .ok (.getfield 154, 3) := dcw_180 (by decide +kernel)
theorem dX11_byteAt_5 : decode cX11_byteAt 5 = .ok (.if_icmp .ge 16, 3) := dcs_162 (n := 16) (by decide +kernel)
theorem dX11_byteAt_8 : decode cX11_byteAt 8 = .ok (.aload_n 0, 1) := dc1_42 (by decide +kernel)
theorem dX11_byteAt_9 : decode cX11_byteAt 9 = .ok (.getfield 17, 3) := dcw_180 (by decide +kernel)
theorem dX11_byteAt_12 : decode cX11_byteAt 12 = .ok (.iload_n 1, 1) := dc1_27 (by decide +kernel)
theorem dX11_byteAt_13 : decode cX11_byteAt 13 = .ok (.baload, 1) := dc1_51 (by decide +kernel)
theorem dX11_byteAt_14 : decode cX11_byteAt 14 = .ok (.sipush 255, 3) := dcs_17 (n := 255) (by decide +kernel)
theorem dX11_byteAt_17 : decode cX11_byteAt 17 = .ok (.iand, 1) := dc1_126 (by decide +kernel)
theorem dX11_byteAt_18 : decode cX11_byteAt 18 = .ok (.goto 4, 3) := dcs_167 (n := 4) (by decide +kernel)
theorem dX11_byteAt_21 : decode cX11_byteAt 21 = .ok (.iconst 0, 1) := dc1_3 (by decide +kernel)
theorem dX11_byteAt_22 : decode cX11_byteAt 22 = .ok (.ireturn, 1) := dc1_172 (by decide +kernel)
theorem dX11_isDigit_0 : decode cX11_isDigit 0 = .ok (.iload_n 0, 1) := dc1_26 (by decide +kernel)
theorem dX11_isDigit_1 : decode cX11_isDigit 1 = .ok (.bipush 48, 2) := dcb_16 (n := 48) (by decide +kernel)
theorem dX11_isDigit_3 : decode cX11_isDigit 3 = .ok (.if_icmp .lt 13, 3) := dcs_161 (n := 13) (by decide +kernel)
theorem dX11_isDigit_6 : decode cX11_isDigit 6 = .ok (.iload_n 0, 1) := dc1_26 (by decide +kernel)
theorem dX11_isDigit_7 : decode cX11_isDigit 7 = .ok (.bipush 57, 2) := dcb_16 (n := 57) (by decide +kernel)
theorem dX11_isDigit_9 : decode cX11_isDigit 9 = .ok (.if_icmp .gt 7, 3) := dcs_163 (n := 7) (by decide +kernel)
theorem dX11_isDigit_12 : decode cX11_isDigit 12 = .ok (.iconst 1, 1) := dc1_4 (by decide +kernel)
theorem dX11_isDigit_13 : decode cX11_isDigit 13 = .ok (.goto 4, 3) := dcs_167 (n := 4) (by decide +kernel)
theorem dX11_isDigit_16 : decode cX11_isDigit 16 = .ok (.iconst 0, 1) := dc1_3 (by decide +kernel)
theorem dX11_isDigit_17 : decode cX11_isDigit 17 = .ok (.ireturn, 1) := dc1_172 (by decide +kernel)
theorem dX11_isLetter_0 : decode cX11_isLetter 0 = .ok (.iload_n 0, 1) := dc1_26 (by decide +kernel)
theorem dX11_isLetter_1 : decode cX11_isLetter 1 = .ok (.bipush 97, 2) := dcb_16 (n := 97) (by decide +kernel)
theorem dX11_isLetter_3 : decode cX11_isLetter 3 = .ok (.if_icmp .lt 13, 3) := dcs_161 (n := 13) (by decide +kernel)
theorem dX11_isLetter_6 : decode cX11_isLetter 6 = .ok (.iload_n 0, 1) := dc1_26 (by decide +kernel)
theorem dX11_isLetter_7 : decode cX11_isLetter 7 = .ok (.bipush 122, 2) := dcb_16 (n := 122) (by decide +kernel)
theorem dX11_isLetter_9 : decode cX11_isLetter 9 = .ok (.if_icmp .gt 7, 3) := dcs_163 (n := 7) (by decide +kernel)
theorem dX11_isLetter_12 : decode cX11_isLetter 12 = .ok (.iconst 1, 1) := dc1_4 (by decide +kernel)
theorem dX11_isLetter_13 : decode cX11_isLetter 13 = .ok (.goto 4, 3) := dcs_167 (n := 4) (by decide +kernel)
theorem dX11_isLetter_16 : decode cX11_isLetter 16 = .ok (.iconst 0, 1) := dc1_3 (by decide +kernel)
theorem dX11_isLetter_17 : decode cX11_isLetter 17 = .ok (.ireturn, 1) := dc1_172 (by decide +kernel)
theorem dX11_appends_0 : decode cX11_appends 0 = .ok (.iload_n 2, 1) := dc1_28 (by decide +kernel)
theorem dX11_appends_1 : decode cX11_appends 1 = .ok (.ifCond .ne 7, 3) := dcs_154 (n := 7) (by decide +kernel)
theorem dX11_appends_4 : decode cX11_appends 4 = .ok (.lload_n 0, 1) := dc1_30 (by decide +kernel)
theorem dX11_appends_5 : decode cX11_appends 5 = .ok (.goto 16, 3) := dcs_167 (n := 16) (by decide +kernel)
theorem dX11_appends_8 : decode cX11_appends 8 = .ok (.ldc2_w 157, 3) := dcw_20 (by decide +kernel)
theorem dX11_appends_11 : decode cX11_appends 11 = .ok (.lload_n 0, 1) := dc1_30 (by decide +kernel)
theorem dX11_appends_12 : decode cX11_appends 12 = .ok (.lmul, 1) := dc1_105 (by decide +kernel)
theorem dX11_appends_13 : decode cX11_appends 13 = .ok (.iload_n 2, 1) := dc1_28 (by decide +kernel)
theorem dX11_appends_14 : decode cX11_appends 14 = .ok (.bipush 97, 2) := dcb_16 (n := 97) (by decide +kernel)
theorem dX11_appends_16 : decode cX11_appends 16 = .ok (.isub, 1) := dc1_100 (by decide +kernel)
theorem dX11_appends_17 : decode cX11_appends 17 = .ok (.iconst 1, 1) := dc1_4 (by decide +kernel)
theorem dX11_appends_18 : decode cX11_appends 18 = .ok (.iadd, 1) := dc1_96 (by decide +kernel)
theorem dX11_appends_19 : decode cX11_appends 19 = .ok (.i2l, 1) := dc1_133 (by decide +kernel)
theorem dX11_appends_20 : decode cX11_appends 20 = .ok (.ladd, 1) := dc1_97 (by decide +kernel)
theorem dX11_appends_21 : decode cX11_appends 21 = .ok (.lreturn, 1) := dc1_173 (by decide +kernel)
theorem ggX11_word_X11_appends : GoodIn wsX11_word wsX11_appends := gi_sub (fun w h => List.mem_cons_of_mem _ (List.mem_append_right _ h)) gd_wsX11_appends
set_option maxRecDepth 20000 in
theorem gX11_word_X11_appends : GoodIn wsX11_word (va_wsS RX11 159 yX11_appends wsX11_appends) := goodIn_app (goodIn_of _ (by decide +kernel)) ggX11_word_X11_appends
theorem dX11_word_0 : decode cX11_word 0 = .ok (.lconst 0, 1) := dc1_9 (by decide +kernel)
theorem dX11_word_1 : decode cX11_word 1 = .ok (.iload_n 0, 1) := dc1_26 (by decide +kernel)
theorem dX11_word_2 : decode cX11_word 2 = .ok (.invokestatic 159, 3) := dcw_184 (by decide +kernel)
theorem dX11_word_5 : decode cX11_word 5 = .ok (.iload_n 1, 1) := dc1_27 (by decide +kernel)
theorem dX11_word_6 : decode cX11_word 6 = .ok (.invokestatic 159, 3) := dcw_184 (by decide +kernel)
theorem dX11_word_9 : decode cX11_word 9 = .ok (.iload_n 2, 1) := dc1_28 (by decide +kernel)
theorem dX11_word_10 : decode cX11_word 10 = .ok (.invokestatic 159, 3) := dcw_184 (by decide +kernel)
theorem dX11_word_13 : decode cX11_word 13 = .ok (.iload_n 3, 1) := dc1_29 (by decide +kernel)
theorem dX11_word_14 : decode cX11_word 14 = .ok (.invokestatic 159, 3) := dcw_184 (by decide +kernel)
theorem dX11_word_17 : decode cX11_word 17 = .ok (.iload 4, 2) := dcu_21 (by decide +kernel)
theorem dX11_word_19 : decode cX11_word 19 = .ok (.invokestatic 159, 3) := dcw_184 (by decide +kernel)
theorem dX11_word_22 : decode cX11_word 22 = .ok (.iload 5, 2) := dcu_21 (by decide +kernel)
theorem dX11_word_24 : decode cX11_word 24 = .ok (.invokestatic 159, 3) := dcw_184 (by decide +kernel)
theorem dX11_word_27 : decode cX11_word 27 = .ok (.iload 6, 2) := dcu_21 (by decide +kernel)
theorem dX11_word_29 : decode cX11_word 29 = .ok (.invokestatic 159, 3) := dcw_184 (by decide +kernel)
theorem dX11_word_32 : decode cX11_word 32 = .ok (.lreturn, 1) := dc1_173 (by decide +kernel)
theorem dX11_token_0 : decode cX11_token 0 = .ok (.aload_n 0, 1) := dc1_42 (by decide +kernel)
theorem dX11_token_1 : decode cX11_token 1 = .ok (.getfield 20, 3) := dcw_180 (by decide +kernel)
theorem dX11_token_4 : decode cX11_token 4 = .ok (.aload_n 0, 1) := dc1_42 (by decide +kernel)
theorem dX11_token_5 : decode cX11_token 5 = .ok (.getfield 163, 3) := dcw_180 (by decide +kernel)
theorem dX11_token_8 : decode cX11_token 8 = .ok (.iload_n 1, 1) := dc1_27 (by decide +kernel)
theorem dX11_token_9 : decode cX11_token 9 = .ok (.iastore, 1) := dc1_79 (by decide +kernel)
theorem dX11_token_10 : decode cX11_token 10 = .ok (.aload_n 0, 1) := dc1_42 (by decide +kernel)
theorem dX11_token_11 : decode cX11_token 11 = .ok (.getfield 24, 3) := dcw_180 (by decide +kernel)
theorem dX11_token_14 : decode cX11_token 14 = .ok (.aload_n 0, 1) := dc1_42 (by decide +kernel)
theorem dX11_token_15 : decode cX11_token 15 = .ok (.getfield 163, 3) := dcw_180 (by decide +kernel)
theorem dX11_token_18 : decode cX11_token 18 = .ok (.iload_n 2, 1) := dc1_28 (by decide +kernel)
theorem dX11_token_19 : decode cX11_token 19 = .ok (.iastore, 1) := dc1_79 (by decide +kernel)
theorem dX11_token_20 : decode cX11_token 20 = .ok (.aload_n 0, 1) := dc1_42 (by decide +kernel)
theorem dX11_token_21 : decode cX11_token 21 = .ok (.getfield 27, 3) := dcw_180 (by decide +kernel)
theorem dX11_token_24 : decode cX11_token 24 = .ok (.aload_n 0, 1) := dc1_42 (by decide +kernel)
theorem dX11_token_25 : decode cX11_token 25 = .ok (.getfield 163, 3) := dcw_180 (by decide +kernel)
theorem dX11_token_28 : decode cX11_token 28 = .ok (.iload_n 3, 1) := dc1_29 (by decide +kernel)
theorem dX11_token_29 : decode cX11_token 29 = .ok (.iastore, 1) := dc1_79 (by decide +kernel)
theorem dX11_token_30 : decode cX11_token 30 = .ok (.aload_n 0, 1) := dc1_42 (by decide +kernel)
theorem dX11_token_31 : decode cX11_token 31 = .ok (.getfield 30, 3) := dcw_180 (by decide +kernel)
theorem dX11_token_34 : decode cX11_token 34 = .ok (.aload_n 0, 1) := dc1_42 (by decide +kernel)
theorem dX11_token_35 : decode cX11_token 35 = .ok (.getfield 163, 3) := dcw_180 (by decide +kernel)
theorem dX11_token_38 : decode cX11_token 38 = .ok (.lload 4, 2) := dcu_22 (by decide +kernel)
theorem dX11_token_40 : decode cX11_token 40 = .ok (.lastore, 1) := dc1_80 (by decide +kernel)
theorem dX11_token_41 : decode cX11_token 41 = .ok (.aload_n 0, 1) := dc1_42 (by decide +kernel)
theorem dX11_token_42 : decode cX11_token 42 = .ok (.dup, 1) := dc1_89 (by decide +kernel)
theorem dX11_token_43 : decode cX11_token 43 = .ok (.getfield 163, 3) := dcw_180 (by decide +kernel)
theorem dX11_token_46 : decode cX11_token 46 = .ok (.iconst 1, 1) := dc1_4 (by decide +kernel)
theorem dX11_token_47 : decode cX11_token 47 = .ok (.iadd, 1) := dc1_96 (by decide +kernel)
theorem dX11_token_48 : decode cX11_token 48 = .ok (.putfield 163, 3) := dcw_181 (by decide +kernel)
theorem dX11_token_51 : decode cX11_token 51 = .ok (.return_, 1) := dc1_177 (by decide +kernel)
theorem ggX11_cut_X11_byteAt : GoodIn wsX11_cut wsX11_byteAt := gi_sub (fun w h => List.mem_cons_of_mem _ (List.mem_append_left _ (List.mem_append_right _ (List.mem_append_left _ h)))) gd_wsX11_byteAt
set_option maxRecDepth 20000 in
theorem gX11_cut_X11_byteAt : GoodIn wsX11_cut (wsV RX11 166 RX11 yX11_byteAt wsX11_byteAt) := goodIn_app (goodIn_r _ [4, 5, 6, 7] (by decide +kernel) (by decide +kernel)) ggX11_cut_X11_byteAt
theorem ggX11_cut_X11_token : GoodIn wsX11_cut wsX11_token := gi_sub (fun w h => List.mem_cons_of_mem _ (List.mem_append_left _ (List.mem_append_right _ (List.mem_append_right _ (List.mem_append_left _ h))))) gd_wsX11_token
set_option maxRecDepth 20000 in
theorem gX11_cut_X11_token : GoodIn wsX11_cut (wsV RX11 170 RX11 yX11_token wsX11_token) := goodIn_app (goodIn_r _ [8, 9, 10, 7] (by decide +kernel) (by decide +kernel)) ggX11_cut_X11_token
theorem ggX11_cut_X11_isLetter : GoodIn wsX11_cut wsX11_isLetter := gi_sub (fun w h => List.mem_cons_of_mem _ (List.mem_append_left _ (List.mem_append_right _ (List.mem_append_right _ (List.mem_append_right _ (List.mem_append_left _ h)))))) gd_wsX11_isLetter
set_option maxRecDepth 20000 in
theorem gX11_cut_X11_isLetter : GoodIn wsX11_cut (va_wsS RX11 174 yX11_isLetter wsX11_isLetter) := goodIn_app (goodIn_of _ (by decide +kernel)) ggX11_cut_X11_isLetter
theorem ggX11_cut_X11_appends : GoodIn wsX11_cut wsX11_appends := gi_sub (fun w h => List.mem_cons_of_mem _ (List.mem_append_left _ (List.mem_append_right _ (List.mem_append_right _ (List.mem_append_right _ (List.mem_append_right _ (List.mem_append_left _ h))))))) gd_wsX11_appends
set_option maxRecDepth 20000 in
theorem gX11_cut_X11_appends : GoodIn wsX11_cut (va_wsS RX11 159 yX11_appends wsX11_appends) := goodIn_app (goodIn_of _ (by decide +kernel)) ggX11_cut_X11_appends
theorem ggX11_cut_X11_isDigit : GoodIn wsX11_cut wsX11_isDigit := gi_sub (fun w h => List.mem_cons_of_mem _ (List.mem_append_left _ (List.mem_append_right _ (List.mem_append_right _ (List.mem_append_right _ (List.mem_append_right _ (List.mem_append_right _ (List.mem_append_left _ h)))))))) gd_wsX11_isDigit
set_option maxRecDepth 20000 in
theorem gX11_cut_X11_isDigit : GoodIn wsX11_cut (va_wsS RX11 178 yX11_isDigit wsX11_isDigit) := goodIn_app (goodIn_of _ (by decide +kernel)) ggX11_cut_X11_isDigit
theorem ggX11_cut_X11_sign : GoodIn wsX11_cut wsX11_sign := gi_sub (fun w h => List.mem_cons_of_mem _ (List.mem_append_left _ (List.mem_append_right _ (List.mem_append_right _ (List.mem_append_right _ (List.mem_append_right _ (List.mem_append_right _ (List.mem_append_right _ h)))))))) gd_wsX11_sign
set_option maxRecDepth 20000 in
theorem gX11_cut_X11_sign : GoodIn wsX11_cut (wsV RX11 181 RX11 yX11_sign wsX11_sign) := goodIn_app (goodIn_r _ [17, 18, 19, 7] (by decide +kernel) (by decide +kernel)) ggX11_cut_X11_sign
theorem dX11_cut_0 : decode cX11_cut 0 = .ok (.aload_n 0, 1) := dc1_42 (by decide +kernel)
theorem dX11_cut_1 : decode cX11_cut 1 = .ok (.iconst 0, 1) := dc1_3 (by decide +kernel)
theorem dX11_cut_2 : decode cX11_cut 2 = .ok (.putfield 163, 3) := dcw_181 (by decide +kernel)
theorem dX11_cut_5 : decode cX11_cut 5 = .ok (.iconst 0, 1) := dc1_3 (by decide +kernel)
theorem dX11_cut_6 : decode cX11_cut 6 = .ok (.istore_n 1, 1) := dc1_60 (by decide +kernel)
theorem dX11_cut_7 : decode cX11_cut 7 = .ok (.aload_n 0, 1) := dc1_42 (by decide +kernel)
theorem dX11_cut_8 : decode cX11_cut 8 = .ok (.getfield 163, 3) := dcw_180 (by decide +kernel)
theorem dX11_cut_11 : decode cX11_cut 11 = .ok (.sipush 400, 3) := dcs_17 (n := 400) (by decide +kernel)
theorem dX11_cut_14 : decode cX11_cut 14 = .ok (.if_icmp .gt 280, 3) := dcs_163 (n := 280) (by decide +kernel)
theorem dX11_cut_17 : decode cX11_cut 17 = .ok (.aload_n 0, 1) := dc1_42 (by decide +kernel)
theorem dX11_cut_18 : decode cX11_cut 18 = .ok (.iload_n 1, 1) := dc1_27 (by decide +kernel)
theorem dX11_cut_19 : decode cX11_cut 19 = .ok (.invokevirtual 166, 3) := dcw_182 (by decide +kernel)
theorem dX11_cut_22 : decode cX11_cut 22 = .ok (.istore_n 2, 1) := dc1_61 (by decide +kernel)
theorem dX11_cut_23 : decode cX11_cut 23 = .ok (.iload_n 1, 1) := dc1_27 (by decide +kernel)
theorem dX11_cut_24 : decode cX11_cut 24 = .ok (.aload_n 0, 1) := dc1_42 (by decide +kernel)
theorem dX11_cut_25 : decode cX11_cut 25 = .ok (.getfield 154, 3) := dcw_180 (by decide +kernel)
theorem dX11_cut_28 : decode cX11_cut 28 = .ok (.if_icmp .lt 15, 3) := dcs_161 (n := 15) (by decide +kernel)
theorem dX11_cut_31 : decode cX11_cut 31 = .ok (.aload_n 0, 1) := dc1_42 (by decide +kernel)
theorem dX11_cut_32 : decode cX11_cut 32 = .ok (.iconst 0, 1) := dc1_3 (by decide +kernel)
theorem dX11_cut_33 : decode cX11_cut 33 = .ok (.aload_n 0, 1) := dc1_42 (by decide +kernel)
theorem dX11_cut_34 : decode cX11_cut 34 = .ok (.getfield 154, 3) := dcw_180 (by decide +kernel)
theorem dX11_cut_37 : decode cX11_cut 37 = .ok (.iconst 0, 1) := dc1_3 (by decide +kernel)
theorem dX11_cut_38 : decode cX11_cut 38 = .ok (.lconst 0, 1) := dc1_9 (by decide +kernel)
theorem dX11_cut_39 : decode cX11_cut 39 = .ok (.invokevirtual 170, 3) := dcw_182 (by decide +kernel)
theorem dX11_cut_42 : decode cX11_cut 42 = .ok (.return_, 1) := dc1_177 (by decide +kernel)
theorem dX11_cut_43 : decode cX11_cut 43 = .ok (.iload_n 2, 1) := dc1_28 (by decide +kernel)
theorem dX11_cut_44 : decode cX11_cut 44 = .ok (.bipush 9, 2) := dcb_16 (n := 9) (by decide +kernel)
theorem dX11_cut_46 : decode cX11_cut 46 = .ok (.if_icmp .eq 21, 3) := dcs_159 (n := 21) (by decide +kernel)
theorem dX11_cut_49 : decode cX11_cut 49 = .ok (.iload_n 2, 1) := dc1_28 (by decide +kernel)
theorem dX11_cut_50 : decode cX11_cut 50 = .ok (.bipush 10, 2) := dcb_16 (n := 10) (by decide +kernel)
theorem dX11_cut_52 : decode cX11_cut 52 = .ok (.if_icmp .eq 15, 3) := dcs_159 (n := 15) (by decide +kernel)
theorem dX11_cut_55 : decode cX11_cut 55 = .ok (.iload_n 2, 1) := dc1_28 (by decide +kernel)
theorem dX11_cut_56 : decode cX11_cut 56 = .ok (.bipush 13, 2) := dcb_16 (n := 13) (by decide +kernel)
theorem dX11_cut_58 : decode cX11_cut 58 = .ok (.if_icmp .eq 9, 3) := dcs_159 (n := 9) (by decide +kernel)
theorem dX11_cut_61 : decode cX11_cut 61 = .ok (.iload_n 2, 1) := dc1_28 (by decide +kernel)
theorem dX11_cut_62 : decode cX11_cut 62 = .ok (.bipush 32, 2) := dcb_16 (n := 32) (by decide +kernel)
theorem dX11_cut_64 : decode cX11_cut 64 = .ok (.if_icmp .ne 9, 3) := dcs_160 (n := 9) (by decide +kernel)
theorem dX11_cut_67 : decode cX11_cut 67 = .ok (.iinc 1 1, 3) := dc_iinc (m := 1) (by decide +kernel)
theorem dX11_cut_70 : decode cX11_cut 70 = .ok (.goto 221, 3) := dcs_167 (n := 221) (by decide +kernel)
theorem dX11_cut_73 : decode cX11_cut 73 = .ok (.iload_n 2, 1) := dc1_28 (by decide +kernel)
theorem dX11_cut_74 : decode cX11_cut 74 = .ok (.invokestatic 174, 3) := dcw_184 (by decide +kernel)
theorem dX11_cut_77 : decode cX11_cut 77 = .ok (.ifCond .eq 119, 3) := dcs_153 (n := 119) (by decide +kernel)
theorem dX11_cut_80 : decode cX11_cut 80 = .ok (.iconst 0, 1) := dc1_3 (by decide +kernel)
theorem dX11_cut_81 : decode cX11_cut 81 = .ok (.istore_n 3, 1) := dc1_62 (by decide +kernel)
theorem dX11_cut_82 : decode cX11_cut 82 = .ok (.lconst 0, 1) := dc1_9 (by decide +kernel)
theorem dX11_cut_83 : decode cX11_cut 83 = .ok (.lstore 4, 2) := dcu_55 (by decide +kernel)
theorem dX11_cut_85 : decode cX11_cut 85 = .ok (.aload_n 0, 1) := dc1_42 (by decide +kernel)
theorem dX11_cut_86 : decode cX11_cut 86 = .ok (.iload_n 1, 1) := dc1_27 (by decide +kernel)
theorem dX11_cut_87 : decode cX11_cut 87 = .ok (.iload_n 3, 1) := dc1_29 (by decide +kernel)
theorem dX11_cut_88 : decode cX11_cut 88 = .ok (.iadd, 1) := dc1_96 (by decide +kernel)
theorem dX11_cut_89 : decode cX11_cut 89 = .ok (.invokevirtual 166, 3) := dcw_182 (by decide +kernel)
theorem dX11_cut_92 : decode cX11_cut 92 = .ok (.invokestatic 174, 3) := dcw_184 (by decide +kernel)
theorem dX11_cut_95 : decode cX11_cut 95 = .ok (.ifCond .eq 29, 3) := dcs_153 (n := 29) (by decide +kernel)
theorem dX11_cut_98 : decode cX11_cut 98 = .ok (.iload_n 3, 1) := dc1_29 (by decide +kernel)
theorem dX11_cut_99 : decode cX11_cut 99 = .ok (.bipush 8, 2) := dcb_16 (n := 8) (by decide +kernel)
theorem dX11_cut_101 : decode cX11_cut 101 = .ok (.if_icmp .ge 17, 3) := dcs_162 (n := 17) (by decide +kernel)
theorem dX11_cut_104 : decode cX11_cut 104 = .ok (.lload 4, 2) := dcu_22 (by decide +kernel)
theorem dX11_cut_106 : decode cX11_cut 106 = .ok (.aload_n 0, 1) := dc1_42 (by decide +kernel)
theorem dX11_cut_107 : decode cX11_cut 107 = .ok (.iload_n 1, 1) := dc1_27 (by decide +kernel)
theorem dX11_cut_108 : decode cX11_cut 108 = .ok (.iload_n 3, 1) := dc1_29 (by decide +kernel)
theorem dX11_cut_109 : decode cX11_cut 109 = .ok (.iadd, 1) := dc1_96 (by decide +kernel)
theorem dX11_cut_110 : decode cX11_cut 110 = .ok (.invokevirtual 166, 3) := dcw_182 (by decide +kernel)
theorem dX11_cut_113 : decode cX11_cut 113 = .ok (.invokestatic 159, 3) := dcw_184 (by decide +kernel)
theorem dX11_cut_116 : decode cX11_cut 116 = .ok (.lstore 4, 2) := dcu_55 (by decide +kernel)
theorem dX11_cut_118 : decode cX11_cut 118 = .ok (.iinc 3 1, 3) := dc_iinc (m := 1) (by decide +kernel)
theorem dX11_cut_121 : decode cX11_cut 121 = .ok (.goto (-36), 3) := dcs_167 (n := 65500) (by decide +kernel)
theorem dX11_cut_124 : decode cX11_cut 124 = .ok (.iload_n 3, 1) := dc1_29 (by decide +kernel)
theorem dX11_cut_125 : decode cX11_cut 125 = .ok (.bipush 8, 2) := dcb_16 (n := 8) (by decide +kernel)
theorem dX11_cut_127 : decode cX11_cut 127 = .ok (.if_icmp .le 7, 3) := dcs_164 (n := 7) (by decide +kernel)
theorem dX11_cut_130 : decode cX11_cut 130 = .ok (.iconst 3, 1) := dc1_6 (by decide +kernel)
theorem dX11_cut_131 : decode cX11_cut 131 = .ok (.goto 4, 3) := dcs_167 (n := 4) (by decide +kernel)
theorem dX11_cut_134 : decode cX11_cut 134 = .ok (.iconst 1, 1) := dc1_4 (by decide +kernel)
theorem dX11_cut_135 : decode cX11_cut 135 = .ok (.istore 6, 2) := dcu_54 (by decide +kernel)
theorem dX11_cut_137 : decode cX11_cut 137 = .ok (.iload_n 3, 1) := dc1_29 (by decide +kernel)
theorem dX11_cut_138 : decode cX11_cut 138 = .ok (.bipush 8, 2) := dcb_16 (n := 8) (by decide +kernel)
theorem dX11_cut_140 : decode cX11_cut 140 = .ok (.if_icmp .gt 39, 3) := dcs_163 (n := 39) (by decide +kernel)
theorem dX11_cut_143 : decode cX11_cut 143 = .ok (.iconst 0, 1) := dc1_3 (by decide +kernel)
theorem dX11_cut_144 : decode cX11_cut 144 = .ok (.istore 7, 2) := dcu_54 (by decide +kernel)
theorem dX11_cut_146 : decode cX11_cut 146 = .ok (.iload 7, 2) := dcu_21 (by decide +kernel)
theorem dX11_cut_148 : decode cX11_cut 148 = .ok (.bipush 19, 2) := dcb_16 (n := 19) (by decide +kernel)
theorem dX11_cut_150 : decode cX11_cut 150 = .ok (.if_icmp .ge 29, 3) := dcs_162 (n := 29) (by decide +kernel)
theorem dX11_cut_153 : decode cX11_cut 153 = .ok (.aload_n 0, 1) := dc1_42 (by decide +kernel)
theorem dX11_cut_154 : decode cX11_cut 154 = .ok (.getfield 34, 3) := dcw_180 (by decide +kernel)
theorem dX11_cut_157 : decode cX11_cut 157 = .ok (.iload 7, 2) := dcu_21 (by decide +kernel)
theorem dX11_cut_159 : decode cX11_cut 159 = .ok (.laload, 1) := dc1_47 (by decide +kernel)
theorem dX11_cut_160 : decode cX11_cut 160 = .ok (.lload 4, 2) := dcu_22 (by decide +kernel)
theorem dX11_cut_162 : decode cX11_cut 162 = .ok (.lcmp, 1) := dc1_148 (by decide +kernel)
theorem dX11_cut_163 : decode cX11_cut 163 = .ok (.ifCond .ne 10, 3) := dcs_154 (n := 10) (by decide +kernel)
theorem dX11_cut_166 : decode cX11_cut 166 = .ok (.bipush 20, 2) := dcb_16 (n := 20) (by decide +kernel)
theorem dX11_cut_168 : decode cX11_cut 168 = .ok (.iload 7, 2) := dcu_21 (by decide +kernel)
theorem dX11_cut_170 : decode cX11_cut 170 = .ok (.iadd, 1) := dc1_96 (by decide +kernel)
theorem dX11_cut_171 : decode cX11_cut 171 = .ok (.istore 6, 2) := dcu_54 (by decide +kernel)
theorem dX11_cut_173 : decode cX11_cut 173 = .ok (.iinc 7 1, 3) := dc_iinc (m := 1) (by decide +kernel)
theorem dX11_cut_176 : decode cX11_cut 176 = .ok (.goto (-30), 3) := dcs_167 (n := 65506) (by decide +kernel)
theorem dX11_cut_179 : decode cX11_cut 179 = .ok (.aload_n 0, 1) := dc1_42 (by decide +kernel)
theorem dX11_cut_180 : decode cX11_cut 180 = .ok (.iload 6, 2) := dcu_21 (by decide +kernel)
theorem dX11_cut_182 : decode cX11_cut 182 = .ok (.iload_n 1, 1) := dc1_27 (by decide +kernel)
theorem dX11_cut_183 : decode cX11_cut 183 = .ok (.iconst 0, 1) := dc1_3 (by decide +kernel)
theorem dX11_cut_184 : decode cX11_cut 184 = .ok (.lload 4, 2) := dcu_22 (by decide +kernel)
theorem dX11_cut_186 : decode cX11_cut 186 = .ok (.invokevirtual 170, 3) := dcw_182 (by decide +kernel)
theorem dX11_cut_189 : decode cX11_cut 189 = .ok (.iload_n 1, 1) := dc1_27 (by decide +kernel)
theorem dX11_cut_190 : decode cX11_cut 190 = .ok (.iload_n 3, 1) := dc1_29 (by decide +kernel)
theorem dX11_cut_191 : decode cX11_cut 191 = .ok (.iadd, 1) := dc1_96 (by decide +kernel)
theorem dX11_cut_192 : decode cX11_cut 192 = .ok (.istore_n 1, 1) := dc1_60 (by decide +kernel)
theorem dX11_cut_193 : decode cX11_cut 193 = .ok (.goto 98, 3) := dcs_167 (n := 98) (by decide +kernel)
theorem dX11_cut_196 : decode cX11_cut 196 = .ok (.iload_n 2, 1) := dc1_28 (by decide +kernel)
theorem dX11_cut_197 : decode cX11_cut 197 = .ok (.invokestatic 178, 3) := dcw_184 (by decide +kernel)
theorem dX11_cut_200 : decode cX11_cut 200 = .ok (.ifCond .eq 75, 3) := dcs_153 (n := 75) (by decide +kernel)
theorem dX11_cut_203 : decode cX11_cut 203 = .ok (.iconst 0, 1) := dc1_3 (by decide +kernel)
theorem dX11_cut_204 : decode cX11_cut 204 = .ok (.istore_n 3, 1) := dc1_62 (by decide +kernel)
theorem dX11_cut_205 : decode cX11_cut 205 = .ok (.iconst 0, 1) := dc1_3 (by decide +kernel)
theorem dX11_cut_206 : decode cX11_cut 206 = .ok (.istore 4, 2) := dcu_54 (by decide +kernel)
theorem dX11_cut_208 : decode cX11_cut 208 = .ok (.aload_n 0, 1) := dc1_42 (by decide +kernel)
theorem dX11_cut_209 : decode cX11_cut 209 = .ok (.iload_n 1, 1) := dc1_27 (by decide +kernel)
theorem dX11_cut_210 : decode cX11_cut 210 = .ok (.iload_n 3, 1) := dc1_29 (by decide +kernel)
theorem dX11_cut_211 : decode cX11_cut 211 = .ok (.iadd, 1) := dc1_96 (by decide +kernel)
theorem dX11_cut_212 : decode cX11_cut 212 = .ok (.invokevirtual 166, 3) := dcw_182 (by decide +kernel)
theorem dX11_cut_215 : decode cX11_cut 215 = .ok (.invokestatic 178, 3) := dcw_184 (by decide +kernel)
theorem dX11_cut_218 : decode cX11_cut 218 = .ok (.ifCond .eq 32, 3) := dcs_153 (n := 32) (by decide +kernel)
theorem dX11_cut_221 : decode cX11_cut 221 = .ok (.iload_n 3, 1) := dc1_29 (by decide +kernel)
theorem dX11_cut_222 : decode cX11_cut 222 = .ok (.iconst 4, 1) := dc1_7 (by decide +kernel)
theorem dX11_cut_223 : decode cX11_cut 223 = .ok (.if_icmp .ge 21, 3) := dcs_162 (n := 21) (by decide +kernel)
theorem dX11_cut_226 : decode cX11_cut 226 = .ok (.bipush 10, 2) := dcb_16 (n := 10) (by decide +kernel)
theorem dX11_cut_228 : decode cX11_cut 228 = .ok (.iload 4, 2) := dcu_21 (by decide +kernel)
theorem dX11_cut_230 : decode cX11_cut 230 = .ok (.imul, 1) := dc1_104 (by decide +kernel)
theorem dX11_cut_231 : decode cX11_cut 231 = .ok (.aload_n 0, 1) := dc1_42 (by decide +kernel)
theorem dX11_cut_232 : decode cX11_cut 232 = .ok (.iload_n 1, 1) := dc1_27 (by decide +kernel)
theorem dX11_cut_233 : decode cX11_cut 233 = .ok (.iload_n 3, 1) := dc1_29 (by decide +kernel)
theorem dX11_cut_234 : decode cX11_cut 234 = .ok (.iadd, 1) := dc1_96 (by decide +kernel)
theorem dX11_cut_235 : decode cX11_cut 235 = .ok (.invokevirtual 166, 3) := dcw_182 (by decide +kernel)
theorem dX11_cut_238 : decode cX11_cut 238 = .ok (.iadd, 1) := dc1_96 (by decide +kernel)
theorem dX11_cut_239 : decode cX11_cut 239 = .ok (.bipush 48, 2) := dcb_16 (n := 48) (by decide +kernel)
theorem dX11_cut_241 : decode cX11_cut 241 = .ok (.isub, 1) := dc1_100 (by decide +kernel)
theorem dX11_cut_242 : decode cX11_cut 242 = .ok (.istore 4, 2) := dcu_54 (by decide +kernel)
theorem dX11_cut_244 : decode cX11_cut 244 = .ok (.iinc 3 1, 3) := dc_iinc (m := 1) (by decide +kernel)
theorem dX11_cut_247 : decode cX11_cut 247 = .ok (.goto (-39), 3) := dcs_167 (n := 65497) (by decide +kernel)
theorem dX11_cut_250 : decode cX11_cut 250 = .ok (.aload_n 0, 1) := dc1_42 (by decide +kernel)
theorem dX11_cut_251 : decode cX11_cut 251 = .ok (.iload_n 3, 1) := dc1_29 (by decide +kernel)
theorem dX11_cut_252 : decode cX11_cut 252 = .ok (.iconst 4, 1) := dc1_7 (by decide +kernel)
theorem dX11_cut_253 : decode cX11_cut 253 = .ok (.if_icmp .le 7, 3) := dcs_164 (n := 7) (by decide +kernel)
theorem dX11_cut_256 : decode cX11_cut 256 = .ok (.iconst 3, 1) := dc1_6 (by decide +kernel)
theorem dX11_cut_257 : decode cX11_cut 257 = .ok (.goto 4, 3) := dcs_167 (n := 4) (by decide +kernel)
theorem dX11_cut_260 : decode cX11_cut 260 = .ok (.iconst 2, 1) := dc1_5 (by decide +kernel)
theorem dX11_cut_261 : decode cX11_cut 261 = .ok (.iload_n 1, 1) := dc1_27 (by decide +kernel)
theorem dX11_cut_262 : decode cX11_cut 262 = .ok (.iload 4, 2) := dcu_21 (by decide +kernel)
theorem dX11_cut_264 : decode cX11_cut 264 = .ok (.lconst 0, 1) := dc1_9 (by decide +kernel)
theorem dX11_cut_265 : decode cX11_cut 265 = .ok (.invokevirtual 170, 3) := dcw_182 (by decide +kernel)
theorem dX11_cut_268 : decode cX11_cut 268 = .ok (.iload_n 1, 1) := dc1_27 (by decide +kernel)
theorem dX11_cut_269 : decode cX11_cut 269 = .ok (.iload_n 3, 1) := dc1_29 (by decide +kernel)
theorem dX11_cut_270 : decode cX11_cut 270 = .ok (.iadd, 1) := dc1_96 (by decide +kernel)
theorem dX11_cut_271 : decode cX11_cut 271 = .ok (.istore_n 1, 1) := dc1_60 (by decide +kernel)
theorem dX11_cut_272 : decode cX11_cut 272 = .ok (.goto 19, 3) := dcs_167 (n := 19) (by decide +kernel)
theorem dX11_cut_275 : decode cX11_cut 275 = .ok (.iload_n 1, 1) := dc1_27 (by decide +kernel)
theorem dX11_cut_276 : decode cX11_cut 276 = .ok (.aload_n 0, 1) := dc1_42 (by decide +kernel)
theorem dX11_cut_277 : decode cX11_cut 277 = .ok (.iload_n 1, 1) := dc1_27 (by decide +kernel)
theorem dX11_cut_278 : decode cX11_cut 278 = .ok (.iload_n 2, 1) := dc1_28 (by decide +kernel)
theorem dX11_cut_279 : decode cX11_cut 279 = .ok (.aload_n 0, 1) := dc1_42 (by decide +kernel)
theorem dX11_cut_280 : decode cX11_cut 280 = .ok (.iload_n 1, 1) := dc1_27 (by decide +kernel)
theorem dX11_cut_281 : decode cX11_cut 281 = .ok (.iconst 1, 1) := dc1_4 (by decide +kernel)
theorem dX11_cut_282 : decode cX11_cut 282 = .ok (.iadd, 1) := dc1_96 (by decide +kernel)
theorem dX11_cut_283 : decode cX11_cut 283 = .ok (.invokevirtual 166, 3) := dcw_182 (by decide +kernel)
theorem dX11_cut_286 : decode cX11_cut 286 = .ok (.invokevirtual 181, 3) := dcw_182 (by decide +kernel)
theorem dX11_cut_289 : decode cX11_cut 289 = .ok (.iadd, 1) := dc1_96 (by decide +kernel)
theorem dX11_cut_290 : decode cX11_cut 290 = .ok (.istore_n 1, 1) := dc1_60 (by decide +kernel)
theorem dX11_cut_291 : decode cX11_cut 291 = .ok (.goto (-284), 3) := dcs_167 (n := 65252) (by decide +kernel)
theorem dX11_cut_294 : decode cX11_cut 294 = .ok (.return_, 1) := dc1_177 (by decide +kernel)
theorem ggX11_sign_X11_token : GoodIn wsX11_sign wsX11_token := gi_sub (fun w h => List.mem_cons_of_mem _ (List.mem_append_left _ (List.mem_append_right _ h))) gd_wsX11_token
set_option maxRecDepth 20000 in
theorem gX11_sign_X11_token : GoodIn wsX11_sign (wsV RX11 170 RX11 yX11_token wsX11_token) := goodIn_app (goodIn_r _ [1, 2, 3, 4] (by decide +kernel) (by decide +kernel)) ggX11_sign_X11_token
theorem dX11_sign_0 : decode cX11_sign 0 = .ok (.iload_n 2, 1) := dc1_28 (by decide +kernel)
theorem dX11_sign_1 : decode cX11_sign 1 = .ok (.bipush 59, 2) := dcb_16 (n := 59) (by decide +kernel)
theorem dX11_sign_3 : decode cX11_sign 3 = .ok (.if_icmp .ne 7, 3) := dcs_160 (n := 7) (by decide +kernel)
theorem dX11_sign_6 : decode cX11_sign 6 = .ok (.iconst 4, 1) := dc1_7 (by decide +kernel)
theorem dX11_sign_7 : decode cX11_sign 7 = .ok (.goto 36, 3) := dcs_167 (n := 36) (by decide +kernel)
theorem dX11_sign_10 : decode cX11_sign 10 = .ok (.iload_n 2, 1) := dc1_28 (by decide +kernel)
theorem dX11_sign_11 : decode cX11_sign 11 = .ok (.bipush 61, 2) := dcb_16 (n := 61) (by decide +kernel)
theorem dX11_sign_13 : decode cX11_sign 13 = .ok (.if_icmp .ne 7, 3) := dcs_160 (n := 7) (by decide +kernel)
theorem dX11_sign_16 : decode cX11_sign 16 = .ok (.iconst 5, 1) := dc1_8 (by decide +kernel)
theorem dX11_sign_17 : decode cX11_sign 17 = .ok (.goto 26, 3) := dcs_167 (n := 26) (by decide +kernel)
theorem dX11_sign_20 : decode cX11_sign 20 = .ok (.iload_n 2, 1) := dc1_28 (by decide +kernel)
theorem dX11_sign_21 : decode cX11_sign 21 = .ok (.bipush 40, 2) := dcb_16 (n := 40) (by decide +kernel)
theorem dX11_sign_23 : decode cX11_sign 23 = .ok (.if_icmp .ne 8, 3) := dcs_160 (n := 8) (by decide +kernel)
theorem dX11_sign_26 : decode cX11_sign 26 = .ok (.bipush 6, 2) := dcb_16 (n := 6) (by decide +kernel)
theorem dX11_sign_28 : decode cX11_sign 28 = .ok (.goto 15, 3) := dcs_167 (n := 15) (by decide +kernel)
theorem dX11_sign_31 : decode cX11_sign 31 = .ok (.iload_n 2, 1) := dc1_28 (by decide +kernel)
theorem dX11_sign_32 : decode cX11_sign 32 = .ok (.bipush 41, 2) := dcb_16 (n := 41) (by decide +kernel)
theorem dX11_sign_34 : decode cX11_sign 34 = .ok (.if_icmp .ne 8, 3) := dcs_160 (n := 8) (by decide +kernel)
theorem dX11_sign_37 : decode cX11_sign 37 = .ok (.bipush 7, 2) := dcb_16 (n := 7) (by decide +kernel)
theorem dX11_sign_39 : decode cX11_sign 39 = .ok (.goto 4, 3) := dcs_167 (n := 4) (by decide +kernel)
theorem dX11_sign_42 : decode cX11_sign 42 = .ok (.iconst 3, 1) := dc1_6 (by decide +kernel)
theorem dX11_sign_43 : decode cX11_sign 43 = .ok (.istore 4, 2) := dcu_54 (by decide +kernel)
theorem dX11_sign_45 : decode cX11_sign 45 = .ok (.iload_n 2, 1) := dc1_28 (by decide +kernel)
theorem dX11_sign_46 : decode cX11_sign 46 = .ok (.bipush 43, 2) := dcb_16 (n := 43) (by decide +kernel)
theorem dX11_sign_48 : decode cX11_sign 48 = .ok (.if_icmp .ne 7, 3) := dcs_160 (n := 7) (by decide +kernel)
theorem dX11_sign_51 : decode cX11_sign 51 = .ok (.bipush 8, 2) := dcb_16 (n := 8) (by decide +kernel)
theorem dX11_sign_53 : decode cX11_sign 53 = .ok (.istore 4, 2) := dcu_54 (by decide +kernel)
theorem dX11_sign_55 : decode cX11_sign 55 = .ok (.iload_n 2, 1) := dc1_28 (by decide +kernel)
theorem dX11_sign_56 : decode cX11_sign 56 = .ok (.bipush 45, 2) := dcb_16 (n := 45) (by decide +kernel)
theorem dX11_sign_58 : decode cX11_sign 58 = .ok (.if_icmp .ne 7, 3) := dcs_160 (n := 7) (by decide +kernel)
theorem dX11_sign_61 : decode cX11_sign 61 = .ok (.bipush 9, 2) := dcb_16 (n := 9) (by decide +kernel)
theorem dX11_sign_63 : decode cX11_sign 63 = .ok (.istore 4, 2) := dcu_54 (by decide +kernel)
theorem dX11_sign_65 : decode cX11_sign 65 = .ok (.iload_n 2, 1) := dc1_28 (by decide +kernel)
theorem dX11_sign_66 : decode cX11_sign 66 = .ok (.bipush 42, 2) := dcb_16 (n := 42) (by decide +kernel)
theorem dX11_sign_68 : decode cX11_sign 68 = .ok (.if_icmp .ne 7, 3) := dcs_160 (n := 7) (by decide +kernel)
theorem dX11_sign_71 : decode cX11_sign 71 = .ok (.bipush 10, 2) := dcb_16 (n := 10) (by decide +kernel)
theorem dX11_sign_73 : decode cX11_sign 73 = .ok (.istore 4, 2) := dcu_54 (by decide +kernel)
theorem dX11_sign_75 : decode cX11_sign 75 = .ok (.iload_n 2, 1) := dc1_28 (by decide +kernel)
theorem dX11_sign_76 : decode cX11_sign 76 = .ok (.bipush 47, 2) := dcb_16 (n := 47) (by decide +kernel)
theorem dX11_sign_78 : decode cX11_sign 78 = .ok (.if_icmp .ne 7, 3) := dcs_160 (n := 7) (by decide +kernel)
theorem dX11_sign_81 : decode cX11_sign 81 = .ok (.bipush 15, 2) := dcb_16 (n := 15) (by decide +kernel)
theorem dX11_sign_83 : decode cX11_sign 83 = .ok (.istore 4, 2) := dcu_54 (by decide +kernel)
theorem dX11_sign_85 : decode cX11_sign 85 = .ok (.iload_n 2, 1) := dc1_28 (by decide +kernel)
theorem dX11_sign_86 : decode cX11_sign 86 = .ok (.bipush 60, 2) := dcb_16 (n := 60) (by decide +kernel)
theorem dX11_sign_88 : decode cX11_sign 88 = .ok (.if_icmp .ne 7, 3) := dcs_160 (n := 7) (by decide +kernel)
theorem dX11_sign_91 : decode cX11_sign 91 = .ok (.bipush 13, 2) := dcb_16 (n := 13) (by decide +kernel)
theorem dX11_sign_93 : decode cX11_sign 93 = .ok (.istore 4, 2) := dcu_54 (by decide +kernel)
theorem dX11_sign_95 : decode cX11_sign 95 = .ok (.aload_n 0, 1) := dc1_42 (by decide +kernel)
theorem dX11_sign_96 : decode cX11_sign 96 = .ok (.iload 4, 2) := dcu_21 (by decide +kernel)
theorem dX11_sign_98 : decode cX11_sign 98 = .ok (.iload_n 1, 1) := dc1_27 (by decide +kernel)
theorem dX11_sign_99 : decode cX11_sign 99 = .ok (.iconst 0, 1) := dc1_3 (by decide +kernel)
theorem dX11_sign_100 : decode cX11_sign 100 = .ok (.lconst 0, 1) := dc1_9 (by decide +kernel)
theorem dX11_sign_101 : decode cX11_sign 101 = .ok (.invokevirtual 170, 3) := dcw_182 (by decide +kernel)
theorem dX11_sign_104 : decode cX11_sign 104 = .ok (.iconst 1, 1) := dc1_4 (by decide +kernel)
theorem dX11_sign_105 : decode cX11_sign 105 = .ok (.ireturn, 1) := dc1_172 (by decide +kernel)
theorem LX11_put_13 : Cond.fieldLink RX11 13 "GuessFerryModel" "tape" "[B" ∈ wsX11_put := by decide +kernel
theorem LX11_put_148 : Cond.fieldLink RX11 148 "GuessFerryModel" "taped" "I" ∈ wsX11_put := by decide +kernel
theorem inX11_put_X11 : ∀ w ∈ u_ws RX11 TX11 58, w ∈ wsX11_put := fun _ h => List.mem_cons_of_mem _ (List.mem_append_right _ h)
set_option maxHeartbeats 4000000 in
set_option maxRecDepth 100000 in
theorem br_put_3 {l : Launch} {dC : Nat → ClassId} {dI : Nat → Nat → Nat} {cB cI cJ cZ cS : ClassId} {h : Nat} {a : Nat → Nat} {as : List Value} {s' : RS} {k3 : RS → Int32 → Int32 → Option RS} (hk3 : ∀ (s : RS) (x1 : Int32) (x2 : Int32), k3 s x1 x2 = some s' → BlkV l yX11_put wsX11_put ({ frames := 0, cells := 0, slots := 0, locals := 0 }) cX11_put 3 none (dC, dI) (tysA cB cI cJ cZ cS) as 3 (mwS cB cI cJ cZ h a s) [(0, .ref h), (1, .int x1), (2, .int x2)] [] (fun u => u = (mwS cB cI cJ cZ h a s'))) (s : RS) (x1 : Int32) (x2 : Int32) (hB : r_put_3 k3 s x1 x2 = some s') : BlkV l yX11_put wsX11_put ({ frames := 0, cells := 0, slots := 0, locals := 0 }) cX11_put 3 none (dC, dI) (tysA cB cI cJ cZ cS) as 3 (mwS cB cI cJ cZ h a s) [(0, .ref h), (1, .int x1), (2, .int x2)] [] (fun u => u = (mwS cB cI cJ cZ h a s')) := by
  intro p e s0 m below meth c A E H locs ls hP hD hS hl
  obtain ⟨C, hr, hlocks, hA, hK, hN⟩ := id E
  obtain ⟨hx, hb, hml, hown, hts⟩ := id C
  unfold r_put_3 at hB
  refine lv_iload_n hx hb dX11_put_3 rfl (lv_at hl 2 rfl) ?_
  refine lv_if_lt (tgt := 36) hx hb dX11_put_4 (by decide) (fun c1 => ?_) (fun c1 => ?_)
  · have hB := if_p hB c1
    exact q_vret C hr hlocks hK hP hD hS (Nat.le_of_ble_eq_true rfl) (Nat.le_of_ble_eq_true rfl) dX11_put_36 (by cases hB; rfl)
  · have hB := if_n hB c1
    refine lv_aload_n hx hb dX11_put_7 rfl (lv_at hl 0 rfl) ?_
    refine q_get (v := .ref (a 1)) C inX11_put_X11 hK hP 0 rfl rfl 1 (by decide) rfl LX11_put_13 rfl dX11_put_8 ?_
    refine lv_aload_n hx hb dX11_put_11 rfl (lv_at hl 0 rfl) ?_
    refine q_get (v := .int (s.v 2)) C inX11_put_X11 hK hP 0 rfl rfl 2 (by decide) rfl LX11_put_148 rfl dX11_put_12 ?_
    refine lv_iload_n hx hb dX11_put_15 rfl (lv_at hl 1 rfl) ?_
    refine lv_iload_n hx hb dX11_put_16 rfl (lv_at hl 2 rfl) ?_
    refine lv_ishr hx hb dX11_put_17 ?_
    refine lv_i2b (v := (Int8.toInt32 (Int32.toInt8 (x1 >>> (x2 &&& 31))))) hx hb dX11_put_18 rfl ?_
    obtain ⟨g2, hB⟩ := guard_inv hB
    obtain ⟨s3, hs4, hB⟩ := letS_inv hB
    refine q_bast (f2 := (upd (s.f 1) (Int32.toNatClampNeg (s.v 2)) (vp_nar .byte (Int8.toInt32 (Int32.toInt8 (x1 >>> (x2 &&& 31))))))) (w2 := (mwS cB cI cJ cZ h a s3)) C hK hP hD hS 1 0 rfl rfl (vpb_in g2) dX11_put_19 rfl (mwS_f1 hs4) (fun H locs hP hD hS => ?_)
    refine lv_aload_n hx hb dX11_put_20 rfl (lv_at hl 0 rfl) ?_
    refine lv_dup hx hb dX11_put_21 rfl ?_
    refine q_get (v := .int (s3.v 2)) C inX11_put_X11 hK hP 0 rfl rfl 2 (by decide) rfl LX11_put_148 rfl dX11_put_22 ?_
    refine lv_iconst (v := 1) hx hb dX11_put_25 (by decide) ?_
    refine lv_iadd hx hb dX11_put_26 ?_
    obtain ⟨s5, hs6, hB⟩ := letS_inv hB
    refine q_put (ty := .int) (w2 := (mwS cB cI cJ cZ h a s5)) tyX11 tyX11_ok nmX11 C inX11_put_X11 hK hP hD hS 0 rfl rfl 2 (by decide) rfl LX11_put_148 rfl (by decide +kernel) (rfl) rfl (Nat.le_of_ble_eq_true rfl) dX11_put_27 (mwS_v2 hs6) (fun H locs hP hD hS => ?_)
    refine lv_iinc (v := (x2 + (-8))) (lv' := [(2, .int (x2 + (-8))), (0, .ref h), (1, .int x1)]) hx hb dX11_put_30 hl (k := 2) rfl (rfl) (by decide) rfl (fun ls hl => ?_)
    refine lv_goto (tgt := 3) hx hb dX11_put_33 (by decide) ?_
    exact hk3 _ _ _ hB p e s0 m below meth c A E H locs ls hP hD hS (lv_sub hl [1, 2, 0] rfl)
theorem br_put_3L {l : Launch} {dC : Nat → ClassId} {dI : Nat → Nat → Nat} {cB cI cJ cZ cS : ClassId} {h : Nat} {a : Nat → Nat} {as : List Value} {s' : RS} : ∀ (n : Nat) (s : RS) (x1 : Int32) (x2 : Int32), r_put_3L n s x1 x2 = some s' → BlkV l yX11_put wsX11_put ({ frames := 0, cells := 0, slots := 0, locals := 0 }) cX11_put 3 none (dC, dI) (tysA cB cI cJ cZ cS) as 3 (mwS cB cI cJ cZ h a s) [(0, .ref h), (1, .int x1), (2, .int x2)] [] (fun u => u = (mwS cB cI cJ cZ h a s')) := by
  intro n
  induction n with
  | zero => intro s x1 x2 hB; exact none_ne hB
  | succ n ih => intro s x1 x2 hB; exact br_put_3 ih _ _ _ hB
set_option maxHeartbeats 4000000 in
set_option maxRecDepth 100000 in
theorem br_put {l : Launch} {dC : Nat → ClassId} {dI : Nat → Nat → Nat} {cB cI cJ cZ cS : ClassId} {h : Nat} {a : Nat → Nat} {as : List Value} {s' : RS} (s : RS) (x1 : Int32) (hB : r_put s x1 = some s') : BlkV l yX11_put wsX11_put ({ frames := 0, cells := 0, slots := 0, locals := 0 }) cX11_put 3 none (dC, dI) (tysA cB cI cJ cZ cS) as 0 (mwS cB cI cJ cZ h a s) [(0, .ref h), (1, .int x1)] [] (fun u => u = (mwS cB cI cJ cZ h a s')) := by
  intro p e s0 m below meth c A E H locs ls hP hD hS hl
  obtain ⟨C, hr, hlocks, hA, hK, hN⟩ := id E
  obtain ⟨hx, hb, hml, hown, hts⟩ := id C
  unfold r_put at hB
  refine lv_bipush (v := 24) hx hb dX11_put_0 (by decide) ?_
  refine lv_istore_n (lv' := [(2, .int 24), (0, .ref h), (1, .int x1)]) hx hb dX11_put_2 rfl hl (by decide) rfl (fun ls hl => ?_)
  exact br_put_3L fu _ _ _ hB p e s0 m below meth c A E H locs ls hP hD hS (lv_sub hl [1, 2, 0] rfl)
theorem cr_put {l : Launch} {dC : Nat → ClassId} {dI : Nat → Nat → Nat} {cB cI cJ cZ cS : ClassId} {h : Nat} {a : Nat → Nat} {s' : RS} {s : RS} {x1 : Int32} (hB : r_put s x1 = some s') : CV l yX11_put wsX11_put ({ frames := 0, cells := 0, slots := 0, locals := 0 }) (dC, dI) (tysA cB cI cJ cZ cS) (mwS cB cI cJ cZ h a s) [.ref h, .int x1] (fun u => u = (mwS cB cI cJ cZ h a s')) :=
  CV_of (cc := cX11_put) (maxL := 3) (ret := none) (by decide) rfl (Nat.le_of_ble_eq_true rfl) (br_put _ _ hB)
theorem LX11_feed_148 : Cond.fieldLink RX11 148 "GuessFerryModel" "taped" "I" ∈ wsX11_feed := by decide +kernel
theorem inX11_feed_X11 : ∀ w ∈ u_ws RX11 TX11 58, w ∈ wsX11_feed := by decide +kernel
set_option maxHeartbeats 4000000 in
set_option maxRecDepth 100000 in
theorem br_feed {l : Launch} {dC : Nat → ClassId} {dI : Nat → Nat → Nat} {cB cI cJ cZ cS : ClassId} {h : Nat} {a : Nat → Nat} {as : List Value} {r : Int32} {s' : RS} (s : RS) (x1 : Int32) (x2 : Int32) (x3 : Int32) (x4 : Int32) (x5 : Int32) (hB : r_feed s x1 x2 x3 x4 x5 = some (r, s')) : BlkI l yX11_feed wsX11_feed ({ frames := 1, cells := 0, slots := 0, locals := 22 }) cX11_feed 6 (some .int) (dC, dI) (tysA cB cI cJ cZ cS) as 0 (mwS cB cI cJ cZ h a s) [(0, .ref h), (1, .int x1), (2, .int x2), (3, .int x3), (4, .int x4), (5, .int x5)] [] (fun x u => x = r ∧ u = (mwS cB cI cJ cZ h a s')) := by
  intro p e s0 m below meth c A E H locs ls hP hD hS hl
  obtain ⟨C, hr, hlocks, hA, hK, hN⟩ := id E
  obtain ⟨hx, hb, hml, hown, hts⟩ := id C
  unfold r_feed at hB
  refine lv_aload_n hx hb dX11_feed_0 rfl (lv_at hl 0 rfl) ?_
  refine q_get (v := .int (s.v 2)) C inX11_feed_X11 hK hP 0 rfl rfl 2 (by decide) rfl LX11_feed_148 rfl dX11_feed_1 ?_
  refine lv_bipush (v := 20) hx hb dX11_feed_4 (by decide) ?_
  refine lv_iadd hx hb dX11_feed_6 ?_
  refine lv_sipush (v := 2000) hx hb dX11_feed_7 (by decide) ?_
  refine lv_icmp_le (tgt := 15) hx hb dX11_feed_10 (by decide) (fun c1 => ?_) (fun c1 => ?_)
  · have hB := if_p hB c1
    refine lv_aload_n hx hb dX11_feed_15 rfl (lv_at hl 0 rfl) ?_
    refine lv_iload_n hx hb dX11_feed_16 rfl (lv_at hl 1 rfl) ?_
    obtain ⟨s2, hc, hB⟩ := bindP_inv hB
    refine q_govF (va_runV (As := [.int x1]) (rest := []) C (cr_put hc _) (cwV 1 hts gX11_feed_X11_put rfl rfl rfl (by decide +kernel) ⟨Nat.le_of_ble_eq_true rfl, Nat.le_of_ble_eq_true rfl⟩) (q_preV hK hP (ci := 11) (q0 := 0) rfl rfl rfl (q_preF hN hK hP hD)) rfl rfl hl.1 rfl (lv_room (Nat.le_of_ble_eq_true rfl)) dX11_feed_17 ⟨Nat.le_of_ble_eq_true rfl, Nat.le_of_ble_eq_true rfl⟩) hD hS hA (fun w1 H locs hw hP hD hS => ?_)
    subst hw
    refine lv_aload_n hx hb dX11_feed_20 rfl (lv_at hl 0 rfl) ?_
    refine lv_iload_n hx hb dX11_feed_21 rfl (lv_at hl 2 rfl) ?_
    obtain ⟨s3, hc, hB⟩ := bindP_inv hB
    refine q_govF (va_runV (As := [.int x2]) (rest := []) C (cr_put hc _) (cwV 1 hts gX11_feed_X11_put rfl rfl rfl (by decide +kernel) ⟨Nat.le_of_ble_eq_true rfl, Nat.le_of_ble_eq_true rfl⟩) (q_preV hK hP (ci := 11) (q0 := 0) rfl rfl rfl (q_preF hN hK hP hD)) rfl rfl hl.1 rfl (lv_room (Nat.le_of_ble_eq_true rfl)) dX11_feed_22 ⟨Nat.le_of_ble_eq_true rfl, Nat.le_of_ble_eq_true rfl⟩) hD hS hA (fun w1 H locs hw hP hD hS => ?_)
    subst hw
    refine lv_aload_n hx hb dX11_feed_25 rfl (lv_at hl 0 rfl) ?_
    refine lv_iload_n hx hb dX11_feed_26 rfl (lv_at hl 3 rfl) ?_
    obtain ⟨s4, hc, hB⟩ := bindP_inv hB
    refine q_govF (va_runV (As := [.int x3]) (rest := []) C (cr_put hc _) (cwV 1 hts gX11_feed_X11_put rfl rfl rfl (by decide +kernel) ⟨Nat.le_of_ble_eq_true rfl, Nat.le_of_ble_eq_true rfl⟩) (q_preV hK hP (ci := 11) (q0 := 0) rfl rfl rfl (q_preF hN hK hP hD)) rfl rfl hl.1 rfl (lv_room (Nat.le_of_ble_eq_true rfl)) dX11_feed_27 ⟨Nat.le_of_ble_eq_true rfl, Nat.le_of_ble_eq_true rfl⟩) hD hS hA (fun w1 H locs hw hP hD hS => ?_)
    subst hw
    refine lv_aload_n hx hb dX11_feed_30 rfl (lv_at hl 0 rfl) ?_
    refine lv_iload hx hb dX11_feed_31 (lv_at hl 4 rfl) ?_
    obtain ⟨s5, hc, hB⟩ := bindP_inv hB
    refine q_govF (va_runV (As := [.int x4]) (rest := []) C (cr_put hc _) (cwV 1 hts gX11_feed_X11_put rfl rfl rfl (by decide +kernel) ⟨Nat.le_of_ble_eq_true rfl, Nat.le_of_ble_eq_true rfl⟩) (q_preV hK hP (ci := 11) (q0 := 0) rfl rfl rfl (q_preF hN hK hP hD)) rfl rfl hl.1 rfl (lv_room (Nat.le_of_ble_eq_true rfl)) dX11_feed_33 ⟨Nat.le_of_ble_eq_true rfl, Nat.le_of_ble_eq_true rfl⟩) hD hS hA (fun w1 H locs hw hP hD hS => ?_)
    subst hw
    refine lv_aload_n hx hb dX11_feed_36 rfl (lv_at hl 0 rfl) ?_
    refine lv_iload hx hb dX11_feed_37 (lv_at hl 5 rfl) ?_
    obtain ⟨s6, hc, hB⟩ := bindP_inv hB
    refine q_govF (va_runV (As := [.int x5]) (rest := []) C (cr_put hc _) (cwV 1 hts gX11_feed_X11_put rfl rfl rfl (by decide +kernel) ⟨Nat.le_of_ble_eq_true rfl, Nat.le_of_ble_eq_true rfl⟩) (q_preV hK hP (ci := 11) (q0 := 0) rfl rfl rfl (q_preF hN hK hP hD)) rfl rfl hl.1 rfl (lv_room (Nat.le_of_ble_eq_true rfl)) dX11_feed_39 ⟨Nat.le_of_ble_eq_true rfl, Nat.le_of_ble_eq_true rfl⟩) hD hS hA (fun w1 H locs hw hP hD hS => ?_)
    subst hw
    refine lv_aload_n hx hb dX11_feed_42 rfl (lv_at hl 0 rfl) ?_
    refine q_get (v := .int (s6.v 2)) C inX11_feed_X11 hK hP 0 rfl rfl 2 (by decide) rfl LX11_feed_148 rfl dX11_feed_43 ?_
    exact q_iret C hr hlocks hK hP hD hS (Nat.le_of_ble_eq_true rfl) (Nat.le_of_ble_eq_true rfl) dX11_feed_46 (by cases hB; exact ⟨rfl, rfl⟩)
  · have hB := if_n hB c1
    refine lv_iconst (v := (-1)) hx hb dX11_feed_13 (by decide) ?_
    exact q_iret C hr hlocks hK hP hD hS (Nat.le_of_ble_eq_true rfl) (Nat.le_of_ble_eq_true rfl) dX11_feed_14 (by cases hB; exact ⟨rfl, rfl⟩)
theorem cr_feed {l : Launch} {dC : Nat → ClassId} {dI : Nat → Nat → Nat} {cB cI cJ cZ cS : ClassId} {h : Nat} {a : Nat → Nat} {r : Int32} {s' : RS} {s : RS} {x1 : Int32} {x2 : Int32} {x3 : Int32} {x4 : Int32} {x5 : Int32} (hB : r_feed s x1 x2 x3 x4 x5 = some (r, s')) : CI l yX11_feed wsX11_feed ({ frames := 1, cells := 0, slots := 0, locals := 22 }) (dC, dI) (tysA cB cI cJ cZ cS) (mwS cB cI cJ cZ h a s) [.ref h, .int x1, .int x2, .int x3, .int x4, .int x5] (fun x u => x = r ∧ u = (mwS cB cI cJ cZ h a s')) :=
  CI_of (cc := cX11_feed) (maxL := 6) (ret := (some .int)) (by decide) rfl (Nat.le_of_ble_eq_true rfl) (br_feed _ _ _ _ _ _ hB)
theorem LX11_back_148 : Cond.fieldLink RX11 148 "GuessFerryModel" "taped" "I" ∈ wsX11_back := by decide +kernel
theorem inX11_back_X11 : ∀ w ∈ u_ws RX11 TX11 58, w ∈ wsX11_back := fun _ h => List.mem_cons_of_mem _ (List.mem_append_right _ h)
set_option maxHeartbeats 4000000 in
set_option maxRecDepth 100000 in
theorem br_back {l : Launch} {dC : Nat → ClassId} {dI : Nat → Nat → Nat} {cB cI cJ cZ cS : ClassId} {h : Nat} {a : Nat → Nat} {as : List Value} {r : Int32} {s' : RS} (s : RS) (x1 : Int32) (hB : r_back s x1 = some (r, s')) : BlkI l yX11_back wsX11_back ({ frames := 0, cells := 0, slots := 0, locals := 0 }) cX11_back 2 (some .int) (dC, dI) (tysA cB cI cJ cZ cS) as 0 (mwS cB cI cJ cZ h a s) [(0, .ref h), (1, .int x1)] [] (fun x u => x = r ∧ u = (mwS cB cI cJ cZ h a s')) := by
  intro p e s0 m below meth c A E H locs ls hP hD hS hl
  obtain ⟨C, hr, hlocks, hA, hK, hN⟩ := id E
  obtain ⟨hx, hb, hml, hown, hts⟩ := id C
  unfold r_back at hB
  refine lv_iload_n hx hb dX11_back_0 rfl (lv_at hl 1 rfl) ?_
  refine lv_if_lt (tgt := 12) hx hb dX11_back_1 (by decide) (fun c1 => ?_) (fun c1 => ?_)
  · have hB := if_p hB c1
    refine lv_iconst (v := (-1)) hx hb dX11_back_12 (by decide) ?_
    exact q_iret C hr hlocks hK hP hD hS (Nat.le_of_ble_eq_true rfl) (Nat.le_of_ble_eq_true rfl) dX11_back_13 (by cases hB; exact ⟨rfl, rfl⟩)
  · have hB := if_n hB c1
    refine lv_iload_n hx hb dX11_back_4 rfl (lv_at hl 1 rfl) ?_
    refine lv_aload_n hx hb dX11_back_5 rfl (lv_at hl 0 rfl) ?_
    refine q_get (v := .int (s.v 2)) C inX11_back_X11 hK hP 0 rfl rfl 2 (by decide) rfl LX11_back_148 rfl dX11_back_6 ?_
    refine lv_icmp_le (tgt := 14) hx hb dX11_back_9 (by decide) (fun c2 => ?_) (fun c2 => ?_)
    · have hB := if_p hB c2
      refine lv_aload_n hx hb dX11_back_14 rfl (lv_at hl 0 rfl) ?_
      refine lv_dup hx hb dX11_back_15 rfl ?_
      refine q_get (v := .int (s.v 2)) C inX11_back_X11 hK hP 0 rfl rfl 2 (by decide) rfl LX11_back_148 rfl dX11_back_16 ?_
      refine lv_iload_n hx hb dX11_back_19 rfl (lv_at hl 1 rfl) ?_
      refine lv_isub hx hb dX11_back_20 ?_
      obtain ⟨s3, hs4, hB⟩ := letS_inv hB
      refine q_put (ty := .int) (w2 := (mwS cB cI cJ cZ h a s3)) tyX11 tyX11_ok nmX11 C inX11_back_X11 hK hP hD hS 0 rfl rfl 2 (by decide) rfl LX11_back_148 rfl (by decide +kernel) (rfl) rfl (Nat.le_of_ble_eq_true rfl) dX11_back_21 (mwS_v2 hs4) (fun H locs hP hD hS => ?_)
      refine lv_aload_n hx hb dX11_back_24 rfl (lv_at hl 0 rfl) ?_
      refine q_get (v := .int (s3.v 2)) C inX11_back_X11 hK hP 0 rfl rfl 2 (by decide) rfl LX11_back_148 rfl dX11_back_25 ?_
      exact q_iret C hr hlocks hK hP hD hS (Nat.le_of_ble_eq_true rfl) (Nat.le_of_ble_eq_true rfl) dX11_back_28 (by cases hB; exact ⟨rfl, rfl⟩)
    · have hB := if_n hB c2
      refine lv_iconst (v := (-1)) hx hb dX11_back_12 (by decide) ?_
      exact q_iret C hr hlocks hK hP hD hS (Nat.le_of_ble_eq_true rfl) (Nat.le_of_ble_eq_true rfl) dX11_back_13 (by cases hB; exact ⟨rfl, rfl⟩)
theorem cr_back {l : Launch} {dC : Nat → ClassId} {dI : Nat → Nat → Nat} {cB cI cJ cZ cS : ClassId} {h : Nat} {a : Nat → Nat} {r : Int32} {s' : RS} {s : RS} {x1 : Int32} (hB : r_back s x1 = some (r, s')) : CI l yX11_back wsX11_back ({ frames := 0, cells := 0, slots := 0, locals := 0 }) (dC, dI) (tysA cB cI cJ cZ cS) (mwS cB cI cJ cZ h a s) [.ref h, .int x1] (fun x u => x = r ∧ u = (mwS cB cI cJ cZ h a s')) :=
  CI_of (cc := cX11_back) (maxL := 2) (ret := (some .int)) (by decide) rfl (Nat.le_of_ble_eq_true rfl) (br_back _ _ hB)
theorem LX11_byteAt_154 : Cond.fieldLink RX11 154 "GuessFerryModel" "size" "I" ∈ wsX11_byteAt := by decide +kernel
theorem LX11_byteAt_17 : Cond.fieldLink RX11 17 "GuessFerryModel" "text" "[B" ∈ wsX11_byteAt := by decide +kernel
theorem inX11_byteAt_X11 : ∀ w ∈ u_ws RX11 TX11 58, w ∈ wsX11_byteAt := fun _ h => List.mem_cons_of_mem _ (List.mem_append_right _ h)
set_option maxHeartbeats 4000000 in
set_option maxRecDepth 100000 in
theorem br_byteAt {l : Launch} {dC : Nat → ClassId} {dI : Nat → Nat → Nat} {cB cI cJ cZ cS : ClassId} {h : Nat} {a : Nat → Nat} {as : List Value} {r : Int32} {s' : RS} (s : RS) (x1 : Int32) (hB : r_byteAt s x1 = some (r, s')) : BlkI l yX11_byteAt wsX11_byteAt ({ frames := 0, cells := 0, slots := 0, locals := 0 }) cX11_byteAt 2 (some .int) (dC, dI) (tysA cB cI cJ cZ cS) as 0 (mwS cB cI cJ cZ h a s) [(0, .ref h), (1, .int x1)] [] (fun x u => x = r ∧ u = (mwS cB cI cJ cZ h a s')) := by
  intro p e s0 m below meth c A E H locs ls hP hD hS hl
  obtain ⟨C, hr, hlocks, hA, hK, hN⟩ := id E
  obtain ⟨hx, hb, hml, hown, hts⟩ := id C
  unfold r_byteAt at hB
  refine lv_iload_n hx hb dX11_byteAt_0 rfl (lv_at hl 1 rfl) ?_
  refine lv_aload_n hx hb dX11_byteAt_1 rfl (lv_at hl 0 rfl) ?_
  refine q_get (v := .int (s.v 4)) C inX11_byteAt_X11 hK hP 0 rfl rfl 4 (by decide) rfl LX11_byteAt_154 rfl dX11_byteAt_2 ?_
  refine lv_icmp_ge (tgt := 21) hx hb dX11_byteAt_5 (by decide) (fun c1 => ?_) (fun c1 => ?_)
  · have hB := if_p hB c1
    refine lv_iconst (v := 0) hx hb dX11_byteAt_21 (by decide) ?_
    exact q_iret C hr hlocks hK hP hD hS (Nat.le_of_ble_eq_true rfl) (Nat.le_of_ble_eq_true rfl) dX11_byteAt_22 (by cases hB; exact ⟨rfl, rfl⟩)
  · have hB := if_n hB c1
    refine lv_aload_n hx hb dX11_byteAt_8 rfl (lv_at hl 0 rfl) ?_
    refine q_get (v := .ref (a 3)) C inX11_byteAt_X11 hK hP 0 rfl rfl 3 (by decide) rfl LX11_byteAt_17 rfl dX11_byteAt_9 ?_
    refine lv_iload_n hx hb dX11_byteAt_12 rfl (lv_at hl 1 rfl) ?_
    obtain ⟨g2, hB⟩ := guard_inv hB
    refine q_bald (x := (s.f 3 (Int32.toNatClampNeg x1))) C hK hP 2 0 rfl rfl (vpb_in g2) dX11_byteAt_13 rfl ?_
    refine lv_sipush (v := 255) hx hb dX11_byteAt_14 (by decide) ?_
    refine lv_iand hx hb dX11_byteAt_17 ?_
    refine lv_goto (tgt := 22) hx hb dX11_byteAt_18 (by decide) ?_
    exact q_iret C hr hlocks hK hP hD hS (Nat.le_of_ble_eq_true rfl) (Nat.le_of_ble_eq_true rfl) dX11_byteAt_22 (by cases hB; exact ⟨rfl, rfl⟩)
theorem cr_byteAt {l : Launch} {dC : Nat → ClassId} {dI : Nat → Nat → Nat} {cB cI cJ cZ cS : ClassId} {h : Nat} {a : Nat → Nat} {r : Int32} {s' : RS} {s : RS} {x1 : Int32} (hB : r_byteAt s x1 = some (r, s')) : CI l yX11_byteAt wsX11_byteAt ({ frames := 0, cells := 0, slots := 0, locals := 0 }) (dC, dI) (tysA cB cI cJ cZ cS) (mwS cB cI cJ cZ h a s) [.ref h, .int x1] (fun x u => x = r ∧ u = (mwS cB cI cJ cZ h a s')) :=
  CI_of (cc := cX11_byteAt) (maxL := 2) (ret := (some .int)) (by decide) rfl (Nat.le_of_ble_eq_true rfl) (br_byteAt _ _ hB)
set_option maxHeartbeats 4000000 in
set_option maxRecDepth 100000 in
theorem br_isDigit {l : Launch} {dC : Nat → ClassId} {dI : Nat → Nat → Nat} {cB cI cJ cZ cS : ClassId} {as : List Value} {r : Int32} (x0 : Int32) (hB : r_isDigit x0 = some r) : BlkI l yX11_isDigit wsX11_isDigit ({ frames := 0, cells := 0, slots := 0, locals := 0 }) cX11_isDigit 1 (some .boolean) (dC, dI) (tysA cB cI cJ cZ cS) as 0 [] [(0, .int x0)] [] (fun x _ => x = r) := by
  intro p e s0 m below meth c A E H locs ls hP hD hS hl
  obtain ⟨C, hr, hlocks, hA, hK, hN⟩ := id E
  obtain ⟨hx, hb, hml, hown, hts⟩ := id C
  unfold r_isDigit at hB
  refine lv_iload_n hx hb dX11_isDigit_0 rfl (lv_at hl 0 rfl) ?_
  refine lv_bipush (v := 48) hx hb dX11_isDigit_1 (by decide) ?_
  refine lv_icmp_lt (tgt := 16) hx hb dX11_isDigit_3 (by decide) (fun c1 => ?_) (fun c1 => ?_)
  · have hB := if_p hB c1
    refine lv_iconst (v := 0) hx hb dX11_isDigit_16 (by decide) ?_
    exact q_zret C hr hlocks (Or.inl rfl) hK hP hD hS (Nat.le_of_ble_eq_true rfl) (Nat.le_of_ble_eq_true rfl) dX11_isDigit_17 (by cases hB; rfl)
  · have hB := if_n hB c1
    refine lv_iload_n hx hb dX11_isDigit_6 rfl (lv_at hl 0 rfl) ?_
    refine lv_bipush (v := 57) hx hb dX11_isDigit_7 (by decide) ?_
    refine lv_icmp_gt (tgt := 16) hx hb dX11_isDigit_9 (by decide) (fun c2 => ?_) (fun c2 => ?_)
    · have hB := if_p hB c2
      refine lv_iconst (v := 0) hx hb dX11_isDigit_16 (by decide) ?_
      exact q_zret C hr hlocks (Or.inl rfl) hK hP hD hS (Nat.le_of_ble_eq_true rfl) (Nat.le_of_ble_eq_true rfl) dX11_isDigit_17 (by cases hB; rfl)
    · have hB := if_n hB c2
      refine lv_iconst (v := 1) hx hb dX11_isDigit_12 (by decide) ?_
      refine lv_goto (tgt := 17) hx hb dX11_isDigit_13 (by decide) ?_
      exact q_zret C hr hlocks (Or.inr rfl) hK hP hD hS (Nat.le_of_ble_eq_true rfl) (Nat.le_of_ble_eq_true rfl) dX11_isDigit_17 (by cases hB; rfl)
theorem cr_isDigit {l : Launch} {dC : Nat → ClassId} {dI : Nat → Nat → Nat} {cB cI cJ cZ cS : ClassId} {r : Int32} {x0 : Int32} (hB : r_isDigit x0 = some r) : CI l yX11_isDigit wsX11_isDigit ({ frames := 0, cells := 0, slots := 0, locals := 0 }) (dC, dI) (tysA cB cI cJ cZ cS) [] [.int x0] (fun x _ => x = r) :=
  CI_of (cc := cX11_isDigit) (maxL := 1) (ret := (some .boolean)) (by decide) rfl (Nat.le_of_ble_eq_true rfl) (br_isDigit _ hB)
set_option maxHeartbeats 4000000 in
set_option maxRecDepth 100000 in
theorem br_isLetter {l : Launch} {dC : Nat → ClassId} {dI : Nat → Nat → Nat} {cB cI cJ cZ cS : ClassId} {as : List Value} {r : Int32} (x0 : Int32) (hB : r_isLetter x0 = some r) : BlkI l yX11_isLetter wsX11_isLetter ({ frames := 0, cells := 0, slots := 0, locals := 0 }) cX11_isLetter 1 (some .boolean) (dC, dI) (tysA cB cI cJ cZ cS) as 0 [] [(0, .int x0)] [] (fun x _ => x = r) := by
  intro p e s0 m below meth c A E H locs ls hP hD hS hl
  obtain ⟨C, hr, hlocks, hA, hK, hN⟩ := id E
  obtain ⟨hx, hb, hml, hown, hts⟩ := id C
  unfold r_isLetter at hB
  refine lv_iload_n hx hb dX11_isLetter_0 rfl (lv_at hl 0 rfl) ?_
  refine lv_bipush (v := 97) hx hb dX11_isLetter_1 (by decide) ?_
  refine lv_icmp_lt (tgt := 16) hx hb dX11_isLetter_3 (by decide) (fun c1 => ?_) (fun c1 => ?_)
  · have hB := if_p hB c1
    refine lv_iconst (v := 0) hx hb dX11_isLetter_16 (by decide) ?_
    exact q_zret C hr hlocks (Or.inl rfl) hK hP hD hS (Nat.le_of_ble_eq_true rfl) (Nat.le_of_ble_eq_true rfl) dX11_isLetter_17 (by cases hB; rfl)
  · have hB := if_n hB c1
    refine lv_iload_n hx hb dX11_isLetter_6 rfl (lv_at hl 0 rfl) ?_
    refine lv_bipush (v := 122) hx hb dX11_isLetter_7 (by decide) ?_
    refine lv_icmp_gt (tgt := 16) hx hb dX11_isLetter_9 (by decide) (fun c2 => ?_) (fun c2 => ?_)
    · have hB := if_p hB c2
      refine lv_iconst (v := 0) hx hb dX11_isLetter_16 (by decide) ?_
      exact q_zret C hr hlocks (Or.inl rfl) hK hP hD hS (Nat.le_of_ble_eq_true rfl) (Nat.le_of_ble_eq_true rfl) dX11_isLetter_17 (by cases hB; rfl)
    · have hB := if_n hB c2
      refine lv_iconst (v := 1) hx hb dX11_isLetter_12 (by decide) ?_
      refine lv_goto (tgt := 17) hx hb dX11_isLetter_13 (by decide) ?_
      exact q_zret C hr hlocks (Or.inr rfl) hK hP hD hS (Nat.le_of_ble_eq_true rfl) (Nat.le_of_ble_eq_true rfl) dX11_isLetter_17 (by cases hB; rfl)
theorem cr_isLetter {l : Launch} {dC : Nat → ClassId} {dI : Nat → Nat → Nat} {cB cI cJ cZ cS : ClassId} {r : Int32} {x0 : Int32} (hB : r_isLetter x0 = some r) : CI l yX11_isLetter wsX11_isLetter ({ frames := 0, cells := 0, slots := 0, locals := 0 }) (dC, dI) (tysA cB cI cJ cZ cS) [] [.int x0] (fun x _ => x = r) :=
  CI_of (cc := cX11_isLetter) (maxL := 1) (ret := (some .boolean)) (by decide) rfl (Nat.le_of_ble_eq_true rfl) (br_isLetter _ hB)
theorem LX11_appends_K157 : Cond.constantLong RX11 157 27 ∈ wsX11_appends := by decide +kernel
set_option maxHeartbeats 4000000 in
set_option maxRecDepth 100000 in
theorem br_appends {l : Launch} {dC : Nat → ClassId} {dI : Nat → Nat → Nat} {cB cI cJ cZ cS : ClassId} {as : List Value} {r : Int64} (x0 : Int64) (x2 : Int32) (hB : r_appends x0 x2 = some r) : BlkL l yX11_appends wsX11_appends ({ frames := 0, cells := 0, slots := 0, locals := 0 }) cX11_appends 3 (some .long) (dC, dI) (tysA cB cI cJ cZ cS) as 0 [] [(0, .long x0), (2, .int x2)] [] (fun x _ => x = r) := by
  intro p e s0 m below meth c A E H locs ls hP hD hS hl
  obtain ⟨C, hr, hlocks, hA, hK, hN⟩ := id E
  obtain ⟨hx, hb, hml, hown, hts⟩ := id C
  unfold r_appends at hB
  refine lv_iload_n hx hb dX11_appends_0 rfl (lv_at hl 1 rfl) ?_
  refine lv_if_ne (tgt := 8) hx hb dX11_appends_1 (by decide) (fun c1 => ?_) (fun c1 => ?_)
  · have hB := if_n hB c1
    refine lv_ldc2 (v := 27) hx hb hown (hts _ LX11_appends_K157) dX11_appends_8 ?_
    refine lv_lload_n hx hb dX11_appends_11 rfl (lv_at hl 0 rfl) ?_
    refine lv_lmul hx hb dX11_appends_12 ?_
    refine lv_iload_n hx hb dX11_appends_13 rfl (lv_at hl 1 rfl) ?_
    refine lv_bipush (v := 97) hx hb dX11_appends_14 (by decide) ?_
    refine lv_isub hx hb dX11_appends_16 ?_
    refine lv_iconst (v := 1) hx hb dX11_appends_17 (by decide) ?_
    refine lv_iadd hx hb dX11_appends_18 ?_
    refine lv_i2l hx hb dX11_appends_19 rfl ?_
    refine lv_ladd hx hb dX11_appends_20 ?_
    exact q_lret C hr hlocks hK hP hD hS (Nat.le_of_ble_eq_true rfl) (Nat.le_of_ble_eq_true rfl) dX11_appends_21 (by cases hB; rfl)
  · have hB := if_p hB c1
    refine lv_lload_n hx hb dX11_appends_4 rfl (lv_at hl 0 rfl) ?_
    refine lv_goto (tgt := 21) hx hb dX11_appends_5 (by decide) ?_
    exact q_lret C hr hlocks hK hP hD hS (Nat.le_of_ble_eq_true rfl) (Nat.le_of_ble_eq_true rfl) dX11_appends_21 (by cases hB; rfl)
theorem cr_appends {l : Launch} {dC : Nat → ClassId} {dI : Nat → Nat → Nat} {cB cI cJ cZ cS : ClassId} {r : Int64} {x0 : Int64} {x2 : Int32} (hB : r_appends x0 x2 = some r) : CL l yX11_appends wsX11_appends ({ frames := 0, cells := 0, slots := 0, locals := 0 }) (dC, dI) (tysA cB cI cJ cZ cS) [] [.long x0, .int x2] (fun x _ => x = r) :=
  CL_of (cc := cX11_appends) (maxL := 3) (ret := (some .long)) (by decide) rfl (Nat.le_of_ble_eq_true rfl) (br_appends _ _ hB)
set_option maxHeartbeats 4000000 in
set_option maxRecDepth 100000 in
theorem br_word {l : Launch} {dC : Nat → ClassId} {dI : Nat → Nat → Nat} {cB cI cJ cZ cS : ClassId} {as : List Value} {r : Int64} (x0 : Int32) (x1 : Int32) (x2 : Int32) (x3 : Int32) (x4 : Int32) (x5 : Int32) (x6 : Int32) (hB : r_word x0 x1 x2 x3 x4 x5 x6 = some r) : BlkL l yX11_word wsX11_word ({ frames := 1, cells := 0, slots := 0, locals := 22 }) cX11_word 7 (some .long) (dC, dI) (tysA cB cI cJ cZ cS) as 0 [] [(0, .int x0), (1, .int x1), (2, .int x2), (3, .int x3), (4, .int x4), (5, .int x5), (6, .int x6)] [] (fun x _ => x = r) := by
  intro p e s0 m below meth c A E H locs ls hP hD hS hl
  obtain ⟨C, hr, hlocks, hA, hK, hN⟩ := id E
  obtain ⟨hx, hb, hml, hown, hts⟩ := id C
  unfold r_word at hB
  refine lv_lconst (v := 0) hx hb dX11_word_0 (by decide) ?_
  refine lv_iload_n hx hb dX11_word_1 rfl (lv_at hl 0 rfl) ?_
  obtain ⟨q_, hc, hB⟩ := bindP_inv hB
  refine q_gol0 (va_runS (As := [.long 0, .int x0]) (rest := []) C (cr_appends hc _) (va_cwS 2 hts gX11_word_X11_appends rfl rfl rfl (by decide +kernel) ⟨Nat.le_of_ble_eq_true rfl, Nat.le_of_ble_eq_true rfl⟩) (q_pre0 hN hK) rfl rfl hl.1 rfl (lv_room (Nat.le_of_ble_eq_true rfl)) dX11_word_2 ⟨Nat.le_of_ble_eq_true rfl, Nat.le_of_ble_eq_true rfl⟩) hP hD hS hA (fun r1 w1 H locs hw hP hS => ?_)
  subst hw
  refine lv_iload_n hx hb dX11_word_5 rfl (lv_at hl 1 rfl) ?_
  obtain ⟨q_, hc, hB⟩ := bindP_inv hB
  refine q_gol0 (va_runS (As := [.long r1, .int x1]) (rest := []) C (cr_appends hc _) (va_cwS 2 hts gX11_word_X11_appends rfl rfl rfl (by decide +kernel) ⟨Nat.le_of_ble_eq_true rfl, Nat.le_of_ble_eq_true rfl⟩) (q_pre0 hN hK) rfl rfl hl.1 rfl (lv_room (Nat.le_of_ble_eq_true rfl)) dX11_word_6 ⟨Nat.le_of_ble_eq_true rfl, Nat.le_of_ble_eq_true rfl⟩) hP hD hS hA (fun r2 w1 H locs hw hP hS => ?_)
  subst hw
  refine lv_iload_n hx hb dX11_word_9 rfl (lv_at hl 2 rfl) ?_
  obtain ⟨q_, hc, hB⟩ := bindP_inv hB
  refine q_gol0 (va_runS (As := [.long r2, .int x2]) (rest := []) C (cr_appends hc _) (va_cwS 2 hts gX11_word_X11_appends rfl rfl rfl (by decide +kernel) ⟨Nat.le_of_ble_eq_true rfl, Nat.le_of_ble_eq_true rfl⟩) (q_pre0 hN hK) rfl rfl hl.1 rfl (lv_room (Nat.le_of_ble_eq_true rfl)) dX11_word_10 ⟨Nat.le_of_ble_eq_true rfl, Nat.le_of_ble_eq_true rfl⟩) hP hD hS hA (fun r3 w1 H locs hw hP hS => ?_)
  subst hw
  refine lv_iload_n hx hb dX11_word_13 rfl (lv_at hl 3 rfl) ?_
  obtain ⟨q_, hc, hB⟩ := bindP_inv hB
  refine q_gol0 (va_runS (As := [.long r3, .int x3]) (rest := []) C (cr_appends hc _) (va_cwS 2 hts gX11_word_X11_appends rfl rfl rfl (by decide +kernel) ⟨Nat.le_of_ble_eq_true rfl, Nat.le_of_ble_eq_true rfl⟩) (q_pre0 hN hK) rfl rfl hl.1 rfl (lv_room (Nat.le_of_ble_eq_true rfl)) dX11_word_14 ⟨Nat.le_of_ble_eq_true rfl, Nat.le_of_ble_eq_true rfl⟩) hP hD hS hA (fun r4 w1 H locs hw hP hS => ?_)
  subst hw
  refine lv_iload hx hb dX11_word_17 (lv_at hl 4 rfl) ?_
  obtain ⟨q_, hc, hB⟩ := bindP_inv hB
  refine q_gol0 (va_runS (As := [.long r4, .int x4]) (rest := []) C (cr_appends hc _) (va_cwS 2 hts gX11_word_X11_appends rfl rfl rfl (by decide +kernel) ⟨Nat.le_of_ble_eq_true rfl, Nat.le_of_ble_eq_true rfl⟩) (q_pre0 hN hK) rfl rfl hl.1 rfl (lv_room (Nat.le_of_ble_eq_true rfl)) dX11_word_19 ⟨Nat.le_of_ble_eq_true rfl, Nat.le_of_ble_eq_true rfl⟩) hP hD hS hA (fun r5 w1 H locs hw hP hS => ?_)
  subst hw
  refine lv_iload hx hb dX11_word_22 (lv_at hl 5 rfl) ?_
  obtain ⟨q_, hc, hB⟩ := bindP_inv hB
  refine q_gol0 (va_runS (As := [.long r5, .int x5]) (rest := []) C (cr_appends hc _) (va_cwS 2 hts gX11_word_X11_appends rfl rfl rfl (by decide +kernel) ⟨Nat.le_of_ble_eq_true rfl, Nat.le_of_ble_eq_true rfl⟩) (q_pre0 hN hK) rfl rfl hl.1 rfl (lv_room (Nat.le_of_ble_eq_true rfl)) dX11_word_24 ⟨Nat.le_of_ble_eq_true rfl, Nat.le_of_ble_eq_true rfl⟩) hP hD hS hA (fun r6 w1 H locs hw hP hS => ?_)
  subst hw
  refine lv_iload hx hb dX11_word_27 (lv_at hl 6 rfl) ?_
  obtain ⟨q_, hc, hB⟩ := bindP_inv hB
  refine q_gol0 (va_runS (As := [.long r6, .int x6]) (rest := []) C (cr_appends hc _) (va_cwS 2 hts gX11_word_X11_appends rfl rfl rfl (by decide +kernel) ⟨Nat.le_of_ble_eq_true rfl, Nat.le_of_ble_eq_true rfl⟩) (q_pre0 hN hK) rfl rfl hl.1 rfl (lv_room (Nat.le_of_ble_eq_true rfl)) dX11_word_29 ⟨Nat.le_of_ble_eq_true rfl, Nat.le_of_ble_eq_true rfl⟩) hP hD hS hA (fun r7 w1 H locs hw hP hS => ?_)
  subst hw
  exact q_lret C hr hlocks hK hP hD hS (Nat.le_of_ble_eq_true rfl) (Nat.le_of_ble_eq_true rfl) dX11_word_32 (by cases hB; rfl)
theorem cr_word {l : Launch} {dC : Nat → ClassId} {dI : Nat → Nat → Nat} {cB cI cJ cZ cS : ClassId} {r : Int64} {x0 : Int32} {x1 : Int32} {x2 : Int32} {x3 : Int32} {x4 : Int32} {x5 : Int32} {x6 : Int32} (hB : r_word x0 x1 x2 x3 x4 x5 x6 = some r) : CL l yX11_word wsX11_word ({ frames := 1, cells := 0, slots := 0, locals := 22 }) (dC, dI) (tysA cB cI cJ cZ cS) [] [.int x0, .int x1, .int x2, .int x3, .int x4, .int x5, .int x6] (fun x _ => x = r) :=
  CL_of (cc := cX11_word) (maxL := 7) (ret := (some .long)) (by decide) rfl (Nat.le_of_ble_eq_true rfl) (br_word _ _ _ _ _ _ _ hB)
theorem LX11_token_163 : Cond.fieldLink RX11 163 "GuessFerryModel" "tokens" "I" ∈ wsX11_token := by decide +kernel
theorem LX11_token_20 : Cond.fieldLink RX11 20 "GuessFerryModel" "tKind" "[I" ∈ wsX11_token := by decide +kernel
theorem LX11_token_24 : Cond.fieldLink RX11 24 "GuessFerryModel" "tPlace" "[I" ∈ wsX11_token := by decide +kernel
theorem LX11_token_27 : Cond.fieldLink RX11 27 "GuessFerryModel" "tValue" "[I" ∈ wsX11_token := by decide +kernel
theorem LX11_token_30 : Cond.fieldLink RX11 30 "GuessFerryModel" "tName" "[J" ∈ wsX11_token := by decide +kernel
theorem inX11_token_X11 : ∀ w ∈ u_ws RX11 TX11 58, w ∈ wsX11_token := fun _ h => List.mem_cons_of_mem _ (List.mem_append_right _ h)
set_option maxHeartbeats 4000000 in
set_option maxRecDepth 100000 in
theorem br_token {l : Launch} {dC : Nat → ClassId} {dI : Nat → Nat → Nat} {cB cI cJ cZ cS : ClassId} {h : Nat} {a : Nat → Nat} {as : List Value} {s' : RS} (s : RS) (x1 : Int32) (x2 : Int32) (x3 : Int32) (x4 : Int64) (hB : r_token s x1 x2 x3 x4 = some s') : BlkV l yX11_token wsX11_token ({ frames := 0, cells := 0, slots := 0, locals := 0 }) cX11_token 6 none (dC, dI) (tysA cB cI cJ cZ cS) as 0 (mwS cB cI cJ cZ h a s) [(0, .ref h), (1, .int x1), (2, .int x2), (3, .int x3), (4, .long x4)] [] (fun u => u = (mwS cB cI cJ cZ h a s')) := by
  intro p e s0 m below meth c A E H locs ls hP hD hS hl
  obtain ⟨C, hr, hlocks, hA, hK, hN⟩ := id E
  obtain ⟨hx, hb, hml, hown, hts⟩ := id C
  unfold r_token at hB
  refine lv_aload_n hx hb dX11_token_0 rfl (lv_at hl 0 rfl) ?_
  refine q_get (v := .ref (a 5)) C inX11_token_X11 hK hP 0 rfl rfl 5 (by decide) rfl LX11_token_20 rfl dX11_token_1 ?_
  refine lv_aload_n hx hb dX11_token_4 rfl (lv_at hl 0 rfl) ?_
  refine q_get (v := .int (s.v 10)) C inX11_token_X11 hK hP 0 rfl rfl 10 (by decide) rfl LX11_token_163 rfl dX11_token_5 ?_
  refine lv_iload_n hx hb dX11_token_8 rfl (lv_at hl 1 rfl) ?_
  obtain ⟨g1, hB⟩ := guard_inv hB
  obtain ⟨s2, hs3, hB⟩ := letS_inv hB
  refine q_iast (f2 := (upd (s.f 5) (Int32.toNatClampNeg (s.v 10)) x1)) (w2 := (mwS cB cI cJ cZ h a s2)) C hK hP hD hS 3 1 rfl rfl (vpb_in g1) dX11_token_9 rfl (mwS_f5 hs3) (fun H locs hP hD hS => ?_)
  refine lv_aload_n hx hb dX11_token_10 rfl (lv_at hl 0 rfl) ?_
  refine q_get (v := .ref (a 6)) C inX11_token_X11 hK hP 0 rfl rfl 6 (by decide) rfl LX11_token_24 rfl dX11_token_11 ?_
  refine lv_aload_n hx hb dX11_token_14 rfl (lv_at hl 0 rfl) ?_
  refine q_get (v := .int (s2.v 10)) C inX11_token_X11 hK hP 0 rfl rfl 10 (by decide) rfl LX11_token_163 rfl dX11_token_15 ?_
  refine lv_iload_n hx hb dX11_token_18 rfl (lv_at hl 2 rfl) ?_
  obtain ⟨g4, hB⟩ := guard_inv hB
  obtain ⟨s5, hs6, hB⟩ := letS_inv hB
  refine q_iast (f2 := (upd (s2.f 6) (Int32.toNatClampNeg (s2.v 10)) x2)) (w2 := (mwS cB cI cJ cZ h a s5)) C hK hP hD hS 4 1 rfl rfl (vpb_in g4) dX11_token_19 rfl (mwS_f6 hs6) (fun H locs hP hD hS => ?_)
  refine lv_aload_n hx hb dX11_token_20 rfl (lv_at hl 0 rfl) ?_
  refine q_get (v := .ref (a 7)) C inX11_token_X11 hK hP 0 rfl rfl 7 (by decide) rfl LX11_token_27 rfl dX11_token_21 ?_
  refine lv_aload_n hx hb dX11_token_24 rfl (lv_at hl 0 rfl) ?_
  refine q_get (v := .int (s5.v 10)) C inX11_token_X11 hK hP 0 rfl rfl 10 (by decide) rfl LX11_token_163 rfl dX11_token_25 ?_
  refine lv_iload_n hx hb dX11_token_28 rfl (lv_at hl 3 rfl) ?_
  obtain ⟨g7, hB⟩ := guard_inv hB
  obtain ⟨s8, hs9, hB⟩ := letS_inv hB
  refine q_iast (f2 := (upd (s5.f 7) (Int32.toNatClampNeg (s5.v 10)) x3)) (w2 := (mwS cB cI cJ cZ h a s8)) C hK hP hD hS 5 1 rfl rfl (vpb_in g7) dX11_token_29 rfl (mwS_f7 hs9) (fun H locs hP hD hS => ?_)
  refine lv_aload_n hx hb dX11_token_30 rfl (lv_at hl 0 rfl) ?_
  refine q_get (v := .ref (a 8)) C inX11_token_X11 hK hP 0 rfl rfl 8 (by decide) rfl LX11_token_30 rfl dX11_token_31 ?_
  refine lv_aload_n hx hb dX11_token_34 rfl (lv_at hl 0 rfl) ?_
  refine q_get (v := .int (s8.v 10)) C inX11_token_X11 hK hP 0 rfl rfl 10 (by decide) rfl LX11_token_163 rfl dX11_token_35 ?_
  refine lv_lload hx hb dX11_token_38 (lv_at hl 4 rfl) ?_
  obtain ⟨g10, hB⟩ := guard_inv hB
  obtain ⟨s11, hs12, hB⟩ := letS_inv hB
  refine q_last (f2 := (vp_updL (s8.g 8) (Int32.toNatClampNeg (s8.v 10)) x4)) (w2 := (mwS cB cI cJ cZ h a s11)) C hK hP hD hS 6 2 rfl rfl (vpb_in g10) dX11_token_40 rfl (mwS_f8 hs12) (fun H locs hP hD hS => ?_)
  refine lv_aload_n hx hb dX11_token_41 rfl (lv_at hl 0 rfl) ?_
  refine lv_dup hx hb dX11_token_42 rfl ?_
  refine q_get (v := .int (s11.v 10)) C inX11_token_X11 hK hP 0 rfl rfl 10 (by decide) rfl LX11_token_163 rfl dX11_token_43 ?_
  refine lv_iconst (v := 1) hx hb dX11_token_46 (by decide) ?_
  refine lv_iadd hx hb dX11_token_47 ?_
  obtain ⟨s13, hs14, hB⟩ := letS_inv hB
  refine q_put (ty := .int) (w2 := (mwS cB cI cJ cZ h a s13)) tyX11 tyX11_ok nmX11 C inX11_token_X11 hK hP hD hS 0 rfl rfl 10 (by decide) rfl LX11_token_163 rfl (by decide +kernel) (rfl) rfl (Nat.le_of_ble_eq_true rfl) dX11_token_48 (mwS_v10 hs14) (fun H locs hP hD hS => ?_)
  exact q_vret C hr hlocks hK hP hD hS (Nat.le_of_ble_eq_true rfl) (Nat.le_of_ble_eq_true rfl) dX11_token_51 (by cases hB; rfl)
theorem cr_token {l : Launch} {dC : Nat → ClassId} {dI : Nat → Nat → Nat} {cB cI cJ cZ cS : ClassId} {h : Nat} {a : Nat → Nat} {s' : RS} {s : RS} {x1 : Int32} {x2 : Int32} {x3 : Int32} {x4 : Int64} (hB : r_token s x1 x2 x3 x4 = some s') : CV l yX11_token wsX11_token ({ frames := 0, cells := 0, slots := 0, locals := 0 }) (dC, dI) (tysA cB cI cJ cZ cS) (mwS cB cI cJ cZ h a s) [.ref h, .int x1, .int x2, .int x3, .long x4] (fun u => u = (mwS cB cI cJ cZ h a s')) :=
  CV_of (cc := cX11_token) (maxL := 6) (ret := none) (by decide) rfl (Nat.le_of_ble_eq_true rfl) (br_token _ _ _ _ _ hB)
set_option maxHeartbeats 4000000 in
set_option maxRecDepth 100000 in
theorem br_sign_95 {l : Launch} {dC : Nat → ClassId} {dI : Nat → Nat → Nat} {cB cI cJ cZ cS : ClassId} {h : Nat} {a : Nat → Nat} {as : List Value} {r : Int32} {s' : RS} (s : RS) (x1 : Int32) (x4 : Int32) (hB : r_sign_95 s x1 x4 = some (r, s')) : BlkI l yX11_sign wsX11_sign ({ frames := 1, cells := 0, slots := 0, locals := 25 }) cX11_sign 5 (some .int) (dC, dI) (tysA cB cI cJ cZ cS) as 95 (mwS cB cI cJ cZ h a s) [(0, .ref h), (1, .int x1), (4, .int x4)] [] (fun x u => x = r ∧ u = (mwS cB cI cJ cZ h a s')) := by
  intro p e s0 m below meth c A E H locs ls hP hD hS hl
  obtain ⟨C, hr, hlocks, hA, hK, hN⟩ := id E
  obtain ⟨hx, hb, hml, hown, hts⟩ := id C
  unfold r_sign_95 at hB
  refine lv_aload_n hx hb dX11_sign_95 rfl (lv_at hl 0 rfl) ?_
  refine lv_iload hx hb dX11_sign_96 (lv_at hl 2 rfl) ?_
  refine lv_iload_n hx hb dX11_sign_98 rfl (lv_at hl 1 rfl) ?_
  refine lv_iconst (v := 0) hx hb dX11_sign_99 (by decide) ?_
  refine lv_lconst (v := 0) hx hb dX11_sign_100 (by decide) ?_
  obtain ⟨s1, hc, hB⟩ := bindP_inv hB
  refine q_govF (va_runV (As := [.int x4, .int x1, .int 0, .long 0]) (rest := []) C (cr_token hc _) (cwV 4 hts gX11_sign_X11_token rfl rfl rfl (by decide +kernel) ⟨Nat.le_of_ble_eq_true rfl, Nat.le_of_ble_eq_true rfl⟩) (q_preV hK hP (ci := 11) (q0 := 0) rfl rfl rfl (q_preF hN hK hP hD)) rfl rfl hl.1 rfl (lv_room (Nat.le_of_ble_eq_true rfl)) dX11_sign_101 ⟨Nat.le_of_ble_eq_true rfl, Nat.le_of_ble_eq_true rfl⟩) hD hS hA (fun w1 H locs hw hP hD hS => ?_)
  subst hw
  refine lv_iconst (v := 1) hx hb dX11_sign_104 (by decide) ?_
  exact q_iret C hr hlocks hK hP hD hS (Nat.le_of_ble_eq_true rfl) (Nat.le_of_ble_eq_true rfl) dX11_sign_105 (by cases hB; exact ⟨rfl, rfl⟩)
set_option maxHeartbeats 4000000 in
set_option maxRecDepth 100000 in
theorem br_sign_85 {l : Launch} {dC : Nat → ClassId} {dI : Nat → Nat → Nat} {cB cI cJ cZ cS : ClassId} {h : Nat} {a : Nat → Nat} {as : List Value} {r : Int32} {s' : RS} (s : RS) (x1 : Int32) (x2 : Int32) (x4 : Int32) (hB : r_sign_85 s x1 x2 x4 = some (r, s')) : BlkI l yX11_sign wsX11_sign ({ frames := 1, cells := 0, slots := 0, locals := 25 }) cX11_sign 5 (some .int) (dC, dI) (tysA cB cI cJ cZ cS) as 85 (mwS cB cI cJ cZ h a s) [(0, .ref h), (1, .int x1), (2, .int x2), (4, .int x4)] [] (fun x u => x = r ∧ u = (mwS cB cI cJ cZ h a s')) := by
  intro p e s0 m below meth c A E H locs ls hP hD hS hl
  obtain ⟨C, hr, hlocks, hA, hK, hN⟩ := id E
  obtain ⟨hx, hb, hml, hown, hts⟩ := id C
  unfold r_sign_85 at hB
  refine lv_iload_n hx hb dX11_sign_85 rfl (lv_at hl 2 rfl) ?_
  refine lv_bipush (v := 60) hx hb dX11_sign_86 (by decide) ?_
  refine lv_icmp_ne (tgt := 95) hx hb dX11_sign_88 (by decide) (fun c1 => ?_) (fun c1 => ?_)
  · have hB := if_n hB c1
    exact br_sign_95 _ _ _ hB p e s0 m below meth c A E H locs ls hP hD hS (lv_sub hl [0, 1, 3] rfl)
  · have hB := if_p hB c1
    refine lv_bipush (v := 13) hx hb dX11_sign_91 (by decide) ?_
    refine lv_istore (lv' := [(4, .int 13), (0, .ref h), (1, .int x1), (2, .int x2)]) hx hb dX11_sign_93 hl (by decide) rfl (fun ls hl => ?_)
    exact br_sign_95 _ _ _ hB p e s0 m below meth c A E H locs ls hP hD hS (lv_sub hl [1, 2, 0] rfl)
set_option maxHeartbeats 4000000 in
set_option maxRecDepth 100000 in
theorem br_sign_75 {l : Launch} {dC : Nat → ClassId} {dI : Nat → Nat → Nat} {cB cI cJ cZ cS : ClassId} {h : Nat} {a : Nat → Nat} {as : List Value} {r : Int32} {s' : RS} (s : RS) (x1 : Int32) (x2 : Int32) (x4 : Int32) (hB : r_sign_75 s x1 x2 x4 = some (r, s')) : BlkI l yX11_sign wsX11_sign ({ frames := 1, cells := 0, slots := 0, locals := 25 }) cX11_sign 5 (some .int) (dC, dI) (tysA cB cI cJ cZ cS) as 75 (mwS cB cI cJ cZ h a s) [(0, .ref h), (1, .int x1), (2, .int x2), (4, .int x4)] [] (fun x u => x = r ∧ u = (mwS cB cI cJ cZ h a s')) := by
  intro p e s0 m below meth c A E H locs ls hP hD hS hl
  obtain ⟨C, hr, hlocks, hA, hK, hN⟩ := id E
  obtain ⟨hx, hb, hml, hown, hts⟩ := id C
  unfold r_sign_75 at hB
  refine lv_iload_n hx hb dX11_sign_75 rfl (lv_at hl 2 rfl) ?_
  refine lv_bipush (v := 47) hx hb dX11_sign_76 (by decide) ?_
  refine lv_icmp_ne (tgt := 85) hx hb dX11_sign_78 (by decide) (fun c1 => ?_) (fun c1 => ?_)
  · have hB := if_n hB c1
    exact br_sign_85 _ _ _ _ hB p e s0 m below meth c A E H locs ls hP hD hS (lv_sub hl [0, 1, 2, 3] rfl)
  · have hB := if_p hB c1
    refine lv_bipush (v := 15) hx hb dX11_sign_81 (by decide) ?_
    refine lv_istore (lv' := [(4, .int 15), (0, .ref h), (1, .int x1), (2, .int x2)]) hx hb dX11_sign_83 hl (by decide) rfl (fun ls hl => ?_)
    exact br_sign_85 _ _ _ _ hB p e s0 m below meth c A E H locs ls hP hD hS (lv_sub hl [1, 2, 3, 0] rfl)
set_option maxHeartbeats 4000000 in
set_option maxRecDepth 100000 in
theorem br_sign_65 {l : Launch} {dC : Nat → ClassId} {dI : Nat → Nat → Nat} {cB cI cJ cZ cS : ClassId} {h : Nat} {a : Nat → Nat} {as : List Value} {r : Int32} {s' : RS} (s : RS) (x1 : Int32) (x2 : Int32) (x4 : Int32) (hB : r_sign_65 s x1 x2 x4 = some (r, s')) : BlkI l yX11_sign wsX11_sign ({ frames := 1, cells := 0, slots := 0, locals := 25 }) cX11_sign 5 (some .int) (dC, dI) (tysA cB cI cJ cZ cS) as 65 (mwS cB cI cJ cZ h a s) [(0, .ref h), (1, .int x1), (2, .int x2), (4, .int x4)] [] (fun x u => x = r ∧ u = (mwS cB cI cJ cZ h a s')) := by
  intro p e s0 m below meth c A E H locs ls hP hD hS hl
  obtain ⟨C, hr, hlocks, hA, hK, hN⟩ := id E
  obtain ⟨hx, hb, hml, hown, hts⟩ := id C
  unfold r_sign_65 at hB
  refine lv_iload_n hx hb dX11_sign_65 rfl (lv_at hl 2 rfl) ?_
  refine lv_bipush (v := 42) hx hb dX11_sign_66 (by decide) ?_
  refine lv_icmp_ne (tgt := 75) hx hb dX11_sign_68 (by decide) (fun c1 => ?_) (fun c1 => ?_)
  · have hB := if_n hB c1
    exact br_sign_75 _ _ _ _ hB p e s0 m below meth c A E H locs ls hP hD hS (lv_sub hl [0, 1, 2, 3] rfl)
  · have hB := if_p hB c1
    refine lv_bipush (v := 10) hx hb dX11_sign_71 (by decide) ?_
    refine lv_istore (lv' := [(4, .int 10), (0, .ref h), (1, .int x1), (2, .int x2)]) hx hb dX11_sign_73 hl (by decide) rfl (fun ls hl => ?_)
    exact br_sign_75 _ _ _ _ hB p e s0 m below meth c A E H locs ls hP hD hS (lv_sub hl [1, 2, 3, 0] rfl)
set_option maxHeartbeats 4000000 in
set_option maxRecDepth 100000 in
theorem br_sign_55 {l : Launch} {dC : Nat → ClassId} {dI : Nat → Nat → Nat} {cB cI cJ cZ cS : ClassId} {h : Nat} {a : Nat → Nat} {as : List Value} {r : Int32} {s' : RS} (s : RS) (x1 : Int32) (x2 : Int32) (x4 : Int32) (hB : r_sign_55 s x1 x2 x4 = some (r, s')) : BlkI l yX11_sign wsX11_sign ({ frames := 1, cells := 0, slots := 0, locals := 25 }) cX11_sign 5 (some .int) (dC, dI) (tysA cB cI cJ cZ cS) as 55 (mwS cB cI cJ cZ h a s) [(0, .ref h), (1, .int x1), (2, .int x2), (4, .int x4)] [] (fun x u => x = r ∧ u = (mwS cB cI cJ cZ h a s')) := by
  intro p e s0 m below meth c A E H locs ls hP hD hS hl
  obtain ⟨C, hr, hlocks, hA, hK, hN⟩ := id E
  obtain ⟨hx, hb, hml, hown, hts⟩ := id C
  unfold r_sign_55 at hB
  refine lv_iload_n hx hb dX11_sign_55 rfl (lv_at hl 2 rfl) ?_
  refine lv_bipush (v := 45) hx hb dX11_sign_56 (by decide) ?_
  refine lv_icmp_ne (tgt := 65) hx hb dX11_sign_58 (by decide) (fun c1 => ?_) (fun c1 => ?_)
  · have hB := if_n hB c1
    exact br_sign_65 _ _ _ _ hB p e s0 m below meth c A E H locs ls hP hD hS (lv_sub hl [0, 1, 2, 3] rfl)
  · have hB := if_p hB c1
    refine lv_bipush (v := 9) hx hb dX11_sign_61 (by decide) ?_
    refine lv_istore (lv' := [(4, .int 9), (0, .ref h), (1, .int x1), (2, .int x2)]) hx hb dX11_sign_63 hl (by decide) rfl (fun ls hl => ?_)
    exact br_sign_65 _ _ _ _ hB p e s0 m below meth c A E H locs ls hP hD hS (lv_sub hl [1, 2, 3, 0] rfl)
set_option maxHeartbeats 4000000 in
set_option maxRecDepth 100000 in
theorem br_sign_43 {l : Launch} {dC : Nat → ClassId} {dI : Nat → Nat → Nat} {cB cI cJ cZ cS : ClassId} {h : Nat} {a : Nat → Nat} {as : List Value} {r : Int32} {s' : RS} (s : RS) (x1 : Int32) (x2 : Int32) (t0 : Int32) (hB : r_sign_43 s x1 x2 t0 = some (r, s')) : BlkI l yX11_sign wsX11_sign ({ frames := 1, cells := 0, slots := 0, locals := 25 }) cX11_sign 5 (some .int) (dC, dI) (tysA cB cI cJ cZ cS) as 43 (mwS cB cI cJ cZ h a s) [(0, .ref h), (1, .int x1), (2, .int x2)] [.int t0] (fun x u => x = r ∧ u = (mwS cB cI cJ cZ h a s')) := by
  intro p e s0 m below meth c A E H locs ls hP hD hS hl
  obtain ⟨C, hr, hlocks, hA, hK, hN⟩ := id E
  obtain ⟨hx, hb, hml, hown, hts⟩ := id C
  unfold r_sign_43 at hB
  refine lv_istore (lv' := [(4, .int t0), (0, .ref h), (1, .int x1), (2, .int x2)]) hx hb dX11_sign_43 hl (by decide) rfl (fun ls hl => ?_)
  refine lv_iload_n hx hb dX11_sign_45 rfl (lv_at hl 3 rfl) ?_
  refine lv_bipush (v := 43) hx hb dX11_sign_46 (by decide) ?_
  refine lv_icmp_ne (tgt := 55) hx hb dX11_sign_48 (by decide) (fun c1 => ?_) (fun c1 => ?_)
  · have hB := if_n hB c1
    exact br_sign_55 _ _ _ _ hB p e s0 m below meth c A E H locs ls hP hD hS (lv_sub hl [1, 2, 3, 0] rfl)
  · have hB := if_p hB c1
    refine lv_bipush (v := 8) hx hb dX11_sign_51 (by decide) ?_
    refine lv_istore (lv' := [(4, .int 8), (0, .ref h), (1, .int x1), (2, .int x2)]) hx hb dX11_sign_53 hl (by decide) rfl (fun ls hl => ?_)
    exact br_sign_55 _ _ _ _ hB p e s0 m below meth c A E H locs ls hP hD hS (lv_sub hl [1, 2, 3, 0] rfl)
set_option maxHeartbeats 4000000 in
set_option maxRecDepth 100000 in
theorem br_sign {l : Launch} {dC : Nat → ClassId} {dI : Nat → Nat → Nat} {cB cI cJ cZ cS : ClassId} {h : Nat} {a : Nat → Nat} {as : List Value} {r : Int32} {s' : RS} (s : RS) (x1 : Int32) (x2 : Int32) (x3 : Int32) (hB : r_sign s x1 x2 x3 = some (r, s')) : BlkI l yX11_sign wsX11_sign ({ frames := 1, cells := 0, slots := 0, locals := 25 }) cX11_sign 5 (some .int) (dC, dI) (tysA cB cI cJ cZ cS) as 0 (mwS cB cI cJ cZ h a s) [(0, .ref h), (1, .int x1), (2, .int x2), (3, .int x3)] [] (fun x u => x = r ∧ u = (mwS cB cI cJ cZ h a s')) := by
  intro p e s0 m below meth c A E H locs ls hP hD hS hl
  obtain ⟨C, hr, hlocks, hA, hK, hN⟩ := id E
  obtain ⟨hx, hb, hml, hown, hts⟩ := id C
  unfold r_sign at hB
  refine lv_iload_n hx hb dX11_sign_0 rfl (lv_at hl 2 rfl) ?_
  refine lv_bipush (v := 59) hx hb dX11_sign_1 (by decide) ?_
  refine lv_icmp_ne (tgt := 10) hx hb dX11_sign_3 (by decide) (fun c1 => ?_) (fun c1 => ?_)
  · have hB := if_n hB c1
    refine lv_iload_n hx hb dX11_sign_10 rfl (lv_at hl 2 rfl) ?_
    refine lv_bipush (v := 61) hx hb dX11_sign_11 (by decide) ?_
    refine lv_icmp_ne (tgt := 20) hx hb dX11_sign_13 (by decide) (fun c2 => ?_) (fun c2 => ?_)
    · have hB := if_n hB c2
      refine lv_iload_n hx hb dX11_sign_20 rfl (lv_at hl 2 rfl) ?_
      refine lv_bipush (v := 40) hx hb dX11_sign_21 (by decide) ?_
      refine lv_icmp_ne (tgt := 31) hx hb dX11_sign_23 (by decide) (fun c3 => ?_) (fun c3 => ?_)
      · have hB := if_n hB c3
        refine lv_iload_n hx hb dX11_sign_31 rfl (lv_at hl 2 rfl) ?_
        refine lv_bipush (v := 41) hx hb dX11_sign_32 (by decide) ?_
        refine lv_icmp_ne (tgt := 42) hx hb dX11_sign_34 (by decide) (fun c4 => ?_) (fun c4 => ?_)
        · have hB := if_n hB c4
          refine lv_iconst (v := 3) hx hb dX11_sign_42 (by decide) ?_
          exact br_sign_43 _ _ _ _ hB p e s0 m below meth c A E H locs ls hP hD hS (lv_sub hl [0, 1, 2] rfl)
        · have hB := if_p hB c4
          refine lv_bipush (v := 7) hx hb dX11_sign_37 (by decide) ?_
          refine lv_goto (tgt := 43) hx hb dX11_sign_39 (by decide) ?_
          exact br_sign_43 _ _ _ _ hB p e s0 m below meth c A E H locs ls hP hD hS (lv_sub hl [0, 1, 2] rfl)
      · have hB := if_p hB c3
        refine lv_bipush (v := 6) hx hb dX11_sign_26 (by decide) ?_
        refine lv_goto (tgt := 43) hx hb dX11_sign_28 (by decide) ?_
        exact br_sign_43 _ _ _ _ hB p e s0 m below meth c A E H locs ls hP hD hS (lv_sub hl [0, 1, 2] rfl)
    · have hB := if_p hB c2
      refine lv_iconst (v := 5) hx hb dX11_sign_16 (by decide) ?_
      refine lv_goto (tgt := 43) hx hb dX11_sign_17 (by decide) ?_
      exact br_sign_43 _ _ _ _ hB p e s0 m below meth c A E H locs ls hP hD hS (lv_sub hl [0, 1, 2] rfl)
  · have hB := if_p hB c1
    refine lv_iconst (v := 4) hx hb dX11_sign_6 (by decide) ?_
    refine lv_goto (tgt := 43) hx hb dX11_sign_7 (by decide) ?_
    exact br_sign_43 _ _ _ _ hB p e s0 m below meth c A E H locs ls hP hD hS (lv_sub hl [0, 1, 2] rfl)
theorem cr_sign {l : Launch} {dC : Nat → ClassId} {dI : Nat → Nat → Nat} {cB cI cJ cZ cS : ClassId} {h : Nat} {a : Nat → Nat} {r : Int32} {s' : RS} {s : RS} {x1 : Int32} {x2 : Int32} {x3 : Int32} (hB : r_sign s x1 x2 x3 = some (r, s')) : CI l yX11_sign wsX11_sign ({ frames := 1, cells := 0, slots := 0, locals := 25 }) (dC, dI) (tysA cB cI cJ cZ cS) (mwS cB cI cJ cZ h a s) [.ref h, .int x1, .int x2, .int x3] (fun x u => x = r ∧ u = (mwS cB cI cJ cZ h a s')) :=
  CI_of (cc := cX11_sign) (maxL := 5) (ret := (some .int)) (by decide) rfl (Nat.le_of_ble_eq_true rfl) (br_sign _ _ _ _ hB)
theorem LX11_cut_154 : Cond.fieldLink RX11 154 "GuessFerryModel" "size" "I" ∈ wsX11_cut := by decide +kernel
theorem LX11_cut_163 : Cond.fieldLink RX11 163 "GuessFerryModel" "tokens" "I" ∈ wsX11_cut := by decide +kernel
theorem LX11_cut_34 : Cond.fieldLink RX11 34 "GuessFerryModel" "keys" "[J" ∈ wsX11_cut := by decide +kernel
theorem inX11_cut_X11 : ∀ w ∈ u_ws RX11 TX11 58, w ∈ wsX11_cut := by decide +kernel
set_option maxHeartbeats 4000000 in
set_option maxRecDepth 100000 in
theorem br_cut_291 {l : Launch} {dC : Nat → ClassId} {dI : Nat → Nat → Nat} {cB cI cJ cZ cS : ClassId} {h : Nat} {a : Nat → Nat} {as : List Value} {s' : RS} {k7 : RS → Int32 → Option RS} (hk7 : ∀ (s : RS) (x1 : Int32), k7 s x1 = some s' → BlkV l yX11_cut wsX11_cut ({ frames := 2, cells := 0, slots := 0, locals := 49 }) cX11_cut 8 none (dC, dI) (tysA cB cI cJ cZ cS) as 7 (mwS cB cI cJ cZ h a s) [(0, .ref h), (1, .int x1)] [] (fun u => u = (mwS cB cI cJ cZ h a s'))) (s : RS) (x1 : Int32) (hB : r_cut_291 k7 s x1 = some s') : BlkV l yX11_cut wsX11_cut ({ frames := 2, cells := 0, slots := 0, locals := 49 }) cX11_cut 8 none (dC, dI) (tysA cB cI cJ cZ cS) as 291 (mwS cB cI cJ cZ h a s) [(0, .ref h), (1, .int x1)] [] (fun u => u = (mwS cB cI cJ cZ h a s')) := by
  intro p e s0 m below meth c A E H locs ls hP hD hS hl
  obtain ⟨C, hr, hlocks, hA, hK, hN⟩ := id E
  obtain ⟨hx, hb, hml, hown, hts⟩ := id C
  unfold r_cut_291 at hB
  refine lv_goto (tgt := 7) hx hb dX11_cut_291 (by decide) ?_
  exact hk7 _ _ hB p e s0 m below meth c A E H locs ls hP hD hS (lv_sub hl [0, 1] rfl)
set_option maxHeartbeats 4000000 in
set_option maxRecDepth 100000 in
theorem br_cut_67 {l : Launch} {dC : Nat → ClassId} {dI : Nat → Nat → Nat} {cB cI cJ cZ cS : ClassId} {h : Nat} {a : Nat → Nat} {as : List Value} {s' : RS} {k7 : RS → Int32 → Option RS} (hk7 : ∀ (s : RS) (x1 : Int32), k7 s x1 = some s' → BlkV l yX11_cut wsX11_cut ({ frames := 2, cells := 0, slots := 0, locals := 49 }) cX11_cut 8 none (dC, dI) (tysA cB cI cJ cZ cS) as 7 (mwS cB cI cJ cZ h a s) [(0, .ref h), (1, .int x1)] [] (fun u => u = (mwS cB cI cJ cZ h a s'))) (s : RS) (x1 : Int32) (hB : r_cut_67 k7 s x1 = some s') : BlkV l yX11_cut wsX11_cut ({ frames := 2, cells := 0, slots := 0, locals := 49 }) cX11_cut 8 none (dC, dI) (tysA cB cI cJ cZ cS) as 67 (mwS cB cI cJ cZ h a s) [(0, .ref h), (1, .int x1)] [] (fun u => u = (mwS cB cI cJ cZ h a s')) := by
  intro p e s0 m below meth c A E H locs ls hP hD hS hl
  obtain ⟨C, hr, hlocks, hA, hK, hN⟩ := id E
  obtain ⟨hx, hb, hml, hown, hts⟩ := id C
  unfold r_cut_67 at hB
  refine lv_iinc (v := (x1 + 1)) (lv' := [(1, .int (x1 + 1)), (0, .ref h)]) hx hb dX11_cut_67 hl (k := 1) rfl (rfl) (by decide) rfl (fun ls hl => ?_)
  refine lv_goto (tgt := 291) hx hb dX11_cut_70 (by decide) ?_
  exact br_cut_291 (hk7) _ _ hB p e s0 m below meth c A E H locs ls hP hD hS (lv_sub hl [1, 0] rfl)
set_option maxHeartbeats 4000000 in
set_option maxRecDepth 100000 in
theorem br_cut_261 {l : Launch} {dC : Nat → ClassId} {dI : Nat → Nat → Nat} {cB cI cJ cZ cS : ClassId} {h : Nat} {a : Nat → Nat} {as : List Value} {s' : RS} {k7 : RS → Int32 → Option RS} (hk7 : ∀ (s : RS) (x1 : Int32), k7 s x1 = some s' → BlkV l yX11_cut wsX11_cut ({ frames := 2, cells := 0, slots := 0, locals := 49 }) cX11_cut 8 none (dC, dI) (tysA cB cI cJ cZ cS) as 7 (mwS cB cI cJ cZ h a s) [(0, .ref h), (1, .int x1)] [] (fun u => u = (mwS cB cI cJ cZ h a s'))) (s : RS) (x1 : Int32) (x3 : Int32) (x4 : Int32) (t0 : Int32) (hB : r_cut_261 k7 s x1 x3 x4 t0 = some s') : BlkV l yX11_cut wsX11_cut ({ frames := 2, cells := 0, slots := 0, locals := 49 }) cX11_cut 8 none (dC, dI) (tysA cB cI cJ cZ cS) as 261 (mwS cB cI cJ cZ h a s) [(0, .ref h), (1, .int x1), (3, .int x3), (4, .int x4)] [.int t0, .ref h] (fun u => u = (mwS cB cI cJ cZ h a s')) := by
  intro p e s0 m below meth c A E H locs ls hP hD hS hl
  obtain ⟨C, hr, hlocks, hA, hK, hN⟩ := id E
  obtain ⟨hx, hb, hml, hown, hts⟩ := id C
  unfold r_cut_261 at hB
  refine lv_iload_n hx hb dX11_cut_261 rfl (lv_at hl 1 rfl) ?_
  refine lv_iload hx hb dX11_cut_262 (lv_at hl 3 rfl) ?_
  refine lv_lconst (v := 0) hx hb dX11_cut_264 (by decide) ?_
  obtain ⟨s1, hc, hB⟩ := bindP_inv hB
  refine q_govF (va_runV (As := [.int t0, .int x1, .int x4, .long 0]) (rest := []) C (cr_token hc _) (cwV 4 hts gX11_cut_X11_token rfl rfl rfl (by decide +kernel) ⟨Nat.le_of_ble_eq_true rfl, Nat.le_of_ble_eq_true rfl⟩) (q_preV hK hP (ci := 11) (q0 := 0) rfl rfl rfl (q_preF hN hK hP hD)) rfl rfl hl.1 rfl (lv_room (Nat.le_of_ble_eq_true rfl)) dX11_cut_265 ⟨Nat.le_of_ble_eq_true rfl, Nat.le_of_ble_eq_true rfl⟩) hD hS hA (fun w1 H locs hw hP hD hS => ?_)
  subst hw
  refine lv_iload_n hx hb dX11_cut_268 rfl (lv_at hl 1 rfl) ?_
  refine lv_iload_n hx hb dX11_cut_269 rfl (lv_at hl 2 rfl) ?_
  refine lv_iadd hx hb dX11_cut_270 ?_
  refine lv_istore_n (lv' := [(1, .int (x1 + x3)), (0, .ref h), (3, .int x3), (4, .int x4)]) hx hb dX11_cut_271 rfl hl (by decide) rfl (fun ls hl => ?_)
  refine lv_goto (tgt := 291) hx hb dX11_cut_272 (by decide) ?_
  exact br_cut_291 (hk7) _ _ hB p e s0 m below meth c A E H locs ls hP hD hS (lv_sub hl [1, 0] rfl)
set_option maxHeartbeats 4000000 in
set_option maxRecDepth 100000 in
theorem br_cut_244 {l : Launch} {dC : Nat → ClassId} {dI : Nat → Nat → Nat} {cB cI cJ cZ cS : ClassId} {h : Nat} {a : Nat → Nat} {as : List Value} {s' : RS} {k7 : RS → Int32 → Option RS} {k208 : RS → Int32 → Int32 → Int32 → Option RS} (hk7 : ∀ (s : RS) (x1 : Int32), k7 s x1 = some s' → BlkV l yX11_cut wsX11_cut ({ frames := 2, cells := 0, slots := 0, locals := 49 }) cX11_cut 8 none (dC, dI) (tysA cB cI cJ cZ cS) as 7 (mwS cB cI cJ cZ h a s) [(0, .ref h), (1, .int x1)] [] (fun u => u = (mwS cB cI cJ cZ h a s'))) (hk208 : ∀ (s : RS) (x1 : Int32) (x3 : Int32) (x4 : Int32), k208 s x1 x3 x4 = some s' → BlkV l yX11_cut wsX11_cut ({ frames := 2, cells := 0, slots := 0, locals := 49 }) cX11_cut 8 none (dC, dI) (tysA cB cI cJ cZ cS) as 208 (mwS cB cI cJ cZ h a s) [(0, .ref h), (1, .int x1), (3, .int x3), (4, .int x4)] [] (fun u => u = (mwS cB cI cJ cZ h a s'))) (s : RS) (x1 : Int32) (x3 : Int32) (x4 : Int32) (hB : r_cut_244 k7 k208 s x1 x3 x4 = some s') : BlkV l yX11_cut wsX11_cut ({ frames := 2, cells := 0, slots := 0, locals := 49 }) cX11_cut 8 none (dC, dI) (tysA cB cI cJ cZ cS) as 244 (mwS cB cI cJ cZ h a s) [(0, .ref h), (1, .int x1), (3, .int x3), (4, .int x4)] [] (fun u => u = (mwS cB cI cJ cZ h a s')) := by
  intro p e s0 m below meth c A E H locs ls hP hD hS hl
  obtain ⟨C, hr, hlocks, hA, hK, hN⟩ := id E
  obtain ⟨hx, hb, hml, hown, hts⟩ := id C
  unfold r_cut_244 at hB
  refine lv_iinc (v := (x3 + 1)) (lv' := [(3, .int (x3 + 1)), (0, .ref h), (1, .int x1), (4, .int x4)]) hx hb dX11_cut_244 hl (k := 2) rfl (rfl) (by decide) rfl (fun ls hl => ?_)
  refine lv_goto (tgt := 208) hx hb dX11_cut_247 (by decide) ?_
  exact hk208 _ _ _ _ hB p e s0 m below meth c A E H locs ls hP hD hS (lv_sub hl [1, 2, 0, 3] rfl)
set_option maxHeartbeats 4000000 in
set_option maxRecDepth 100000 in
theorem br_cut_208 {l : Launch} {dC : Nat → ClassId} {dI : Nat → Nat → Nat} {cB cI cJ cZ cS : ClassId} {h : Nat} {a : Nat → Nat} {as : List Value} {s' : RS} {k7 : RS → Int32 → Option RS} {k208 : RS → Int32 → Int32 → Int32 → Option RS} (hk7 : ∀ (s : RS) (x1 : Int32), k7 s x1 = some s' → BlkV l yX11_cut wsX11_cut ({ frames := 2, cells := 0, slots := 0, locals := 49 }) cX11_cut 8 none (dC, dI) (tysA cB cI cJ cZ cS) as 7 (mwS cB cI cJ cZ h a s) [(0, .ref h), (1, .int x1)] [] (fun u => u = (mwS cB cI cJ cZ h a s'))) (hk208 : ∀ (s : RS) (x1 : Int32) (x3 : Int32) (x4 : Int32), k208 s x1 x3 x4 = some s' → BlkV l yX11_cut wsX11_cut ({ frames := 2, cells := 0, slots := 0, locals := 49 }) cX11_cut 8 none (dC, dI) (tysA cB cI cJ cZ cS) as 208 (mwS cB cI cJ cZ h a s) [(0, .ref h), (1, .int x1), (3, .int x3), (4, .int x4)] [] (fun u => u = (mwS cB cI cJ cZ h a s'))) (s : RS) (x1 : Int32) (x3 : Int32) (x4 : Int32) (hB : r_cut_208 k7 k208 s x1 x3 x4 = some s') : BlkV l yX11_cut wsX11_cut ({ frames := 2, cells := 0, slots := 0, locals := 49 }) cX11_cut 8 none (dC, dI) (tysA cB cI cJ cZ cS) as 208 (mwS cB cI cJ cZ h a s) [(0, .ref h), (1, .int x1), (3, .int x3), (4, .int x4)] [] (fun u => u = (mwS cB cI cJ cZ h a s')) := by
  intro p e s0 m below meth c A E H locs ls hP hD hS hl
  obtain ⟨C, hr, hlocks, hA, hK, hN⟩ := id E
  obtain ⟨hx, hb, hml, hown, hts⟩ := id C
  unfold r_cut_208 at hB
  refine lv_aload_n hx hb dX11_cut_208 rfl (lv_at hl 0 rfl) ?_
  refine lv_iload_n hx hb dX11_cut_209 rfl (lv_at hl 1 rfl) ?_
  refine lv_iload_n hx hb dX11_cut_210 rfl (lv_at hl 2 rfl) ?_
  refine lv_iadd hx hb dX11_cut_211 ?_
  obtain ⟨q_, s1, hc, hB⟩ := bindI_inv hB
  refine q_goiF (va_runV (As := [.int (x1 + x3)]) (rest := []) C (cr_byteAt hc _) (cwV 1 hts gX11_cut_X11_byteAt rfl rfl rfl (by decide +kernel) ⟨Nat.le_of_ble_eq_true rfl, Nat.le_of_ble_eq_true rfl⟩) (q_preV hK hP (ci := 11) (q0 := 0) rfl rfl rfl (q_preF hN hK hP hD)) rfl rfl hl.1 rfl (lv_room (Nat.le_of_ble_eq_true rfl)) dX11_cut_212 ⟨Nat.le_of_ble_eq_true rfl, Nat.le_of_ble_eq_true rfl⟩) hD hS hA (fun r2 w1 H locs hw hP hD hS => ?_)
  obtain ⟨hq_, hw⟩ := hw; subst hw; subst hq_
  obtain ⟨q_, hc, hB⟩ := bindP_inv hB
  refine q_goi0 (va_runS (As := [.int r2]) (rest := []) C (cr_isDigit hc _) (va_cwS 1 hts gX11_cut_X11_isDigit rfl rfl rfl (by decide +kernel) ⟨Nat.le_of_ble_eq_true rfl, Nat.le_of_ble_eq_true rfl⟩) (q_pre0 hN hK) rfl rfl hl.1 rfl (lv_room (Nat.le_of_ble_eq_true rfl)) dX11_cut_215 ⟨Nat.le_of_ble_eq_true rfl, Nat.le_of_ble_eq_true rfl⟩) hP hD hS hA (fun r3 w1 H locs hw hP hS => ?_)
  subst hw
  refine lv_if_eq (tgt := 250) hx hb dX11_cut_218 (by decide) (fun c4 => ?_) (fun c4 => ?_)
  · have hB := if_p hB c4
    refine lv_aload_n hx hb dX11_cut_250 rfl (lv_at hl 0 rfl) ?_
    refine lv_iload_n hx hb dX11_cut_251 rfl (lv_at hl 2 rfl) ?_
    refine lv_iconst (v := 4) hx hb dX11_cut_252 (by decide) ?_
    refine lv_icmp_le (tgt := 260) hx hb dX11_cut_253 (by decide) (fun c5 => ?_) (fun c5 => ?_)
    · have hB := if_p hB c5
      refine lv_iconst (v := 2) hx hb dX11_cut_260 (by decide) ?_
      exact br_cut_261 (hk7) _ _ _ _ _ hB p e s0 m below meth c A E H locs ls hP hD hS (lv_sub hl [0, 1, 2, 3] rfl)
    · have hB := if_n hB c5
      refine lv_iconst (v := 3) hx hb dX11_cut_256 (by decide) ?_
      refine lv_goto (tgt := 261) hx hb dX11_cut_257 (by decide) ?_
      exact br_cut_261 (hk7) _ _ _ _ _ hB p e s0 m below meth c A E H locs ls hP hD hS (lv_sub hl [0, 1, 2, 3] rfl)
  · have hB := if_n hB c4
    refine lv_iload_n hx hb dX11_cut_221 rfl (lv_at hl 2 rfl) ?_
    refine lv_iconst (v := 4) hx hb dX11_cut_222 (by decide) ?_
    refine lv_icmp_ge (tgt := 244) hx hb dX11_cut_223 (by decide) (fun c6 => ?_) (fun c6 => ?_)
    · have hB := if_p hB c6
      exact br_cut_244 (hk7) (hk208) _ _ _ _ hB p e s0 m below meth c A E H locs ls hP hD hS (lv_sub hl [0, 1, 2, 3] rfl)
    · have hB := if_n hB c6
      refine lv_bipush (v := 10) hx hb dX11_cut_226 (by decide) ?_
      refine lv_iload hx hb dX11_cut_228 (lv_at hl 3 rfl) ?_
      refine lv_imul hx hb dX11_cut_230 ?_
      refine lv_aload_n hx hb dX11_cut_231 rfl (lv_at hl 0 rfl) ?_
      refine lv_iload_n hx hb dX11_cut_232 rfl (lv_at hl 1 rfl) ?_
      refine lv_iload_n hx hb dX11_cut_233 rfl (lv_at hl 2 rfl) ?_
      refine lv_iadd hx hb dX11_cut_234 ?_
      obtain ⟨q_, s7, hc, hB⟩ := bindI_inv hB
      refine q_goiF (va_runV (As := [.int (x1 + x3)]) (rest := [.int (10 * x4)]) C (cr_byteAt hc _) (cwV 1 hts gX11_cut_X11_byteAt rfl rfl rfl (by decide +kernel) ⟨Nat.le_of_ble_eq_true rfl, Nat.le_of_ble_eq_true rfl⟩) (q_preV hK hP (ci := 11) (q0 := 0) rfl rfl rfl (q_preF hN hK hP hD)) rfl rfl hl.1 rfl (lv_room (Nat.le_of_ble_eq_true rfl)) dX11_cut_235 ⟨Nat.le_of_ble_eq_true rfl, Nat.le_of_ble_eq_true rfl⟩) hD hS hA (fun r8 w1 H locs hw hP hD hS => ?_)
      obtain ⟨hq_, hw⟩ := hw; subst hw; subst hq_
      refine lv_iadd hx hb dX11_cut_238 ?_
      refine lv_bipush (v := 48) hx hb dX11_cut_239 (by decide) ?_
      refine lv_isub hx hb dX11_cut_241 ?_
      refine lv_istore (lv' := [(4, .int (((10 * x4) + r8) - 48)), (0, .ref h), (1, .int x1), (3, .int x3)]) hx hb dX11_cut_242 hl (by decide) rfl (fun ls hl => ?_)
      exact br_cut_244 (hk7) (hk208) _ _ _ _ hB p e s0 m below meth c A E H locs ls hP hD hS (lv_sub hl [1, 2, 3, 0] rfl)
theorem br_cut_208L {l : Launch} {dC : Nat → ClassId} {dI : Nat → Nat → Nat} {cB cI cJ cZ cS : ClassId} {h : Nat} {a : Nat → Nat} {as : List Value} {s' : RS} {k7 : RS → Int32 → Option RS} (hk7 : ∀ (s : RS) (x1 : Int32), k7 s x1 = some s' → BlkV l yX11_cut wsX11_cut ({ frames := 2, cells := 0, slots := 0, locals := 49 }) cX11_cut 8 none (dC, dI) (tysA cB cI cJ cZ cS) as 7 (mwS cB cI cJ cZ h a s) [(0, .ref h), (1, .int x1)] [] (fun u => u = (mwS cB cI cJ cZ h a s'))) : ∀ (n : Nat) (s : RS) (x1 : Int32) (x3 : Int32) (x4 : Int32), r_cut_208L k7 n s x1 x3 x4 = some s' → BlkV l yX11_cut wsX11_cut ({ frames := 2, cells := 0, slots := 0, locals := 49 }) cX11_cut 8 none (dC, dI) (tysA cB cI cJ cZ cS) as 208 (mwS cB cI cJ cZ h a s) [(0, .ref h), (1, .int x1), (3, .int x3), (4, .int x4)] [] (fun u => u = (mwS cB cI cJ cZ h a s')) := by
  intro n
  induction n with
  | zero => intro s x1 x3 x4 hB; exact none_ne hB
  | succ n ih => intro s x1 x3 x4 hB; exact br_cut_208 hk7 ih _ _ _ _ hB
set_option maxHeartbeats 4000000 in
set_option maxRecDepth 100000 in
theorem br_cut_179 {l : Launch} {dC : Nat → ClassId} {dI : Nat → Nat → Nat} {cB cI cJ cZ cS : ClassId} {h : Nat} {a : Nat → Nat} {as : List Value} {s' : RS} {k7 : RS → Int32 → Option RS} (hk7 : ∀ (s : RS) (x1 : Int32), k7 s x1 = some s' → BlkV l yX11_cut wsX11_cut ({ frames := 2, cells := 0, slots := 0, locals := 49 }) cX11_cut 8 none (dC, dI) (tysA cB cI cJ cZ cS) as 7 (mwS cB cI cJ cZ h a s) [(0, .ref h), (1, .int x1)] [] (fun u => u = (mwS cB cI cJ cZ h a s'))) (s : RS) (x1 : Int32) (x3 : Int32) (x4 : Int64) (x6 : Int32) (hB : r_cut_179 k7 s x1 x3 x4 x6 = some s') : BlkV l yX11_cut wsX11_cut ({ frames := 2, cells := 0, slots := 0, locals := 49 }) cX11_cut 8 none (dC, dI) (tysA cB cI cJ cZ cS) as 179 (mwS cB cI cJ cZ h a s) [(0, .ref h), (1, .int x1), (3, .int x3), (4, .long x4), (6, .int x6)] [] (fun u => u = (mwS cB cI cJ cZ h a s')) := by
  intro p e s0 m below meth c A E H locs ls hP hD hS hl
  obtain ⟨C, hr, hlocks, hA, hK, hN⟩ := id E
  obtain ⟨hx, hb, hml, hown, hts⟩ := id C
  unfold r_cut_179 at hB
  refine lv_aload_n hx hb dX11_cut_179 rfl (lv_at hl 0 rfl) ?_
  refine lv_iload hx hb dX11_cut_180 (lv_at hl 4 rfl) ?_
  refine lv_iload_n hx hb dX11_cut_182 rfl (lv_at hl 1 rfl) ?_
  refine lv_iconst (v := 0) hx hb dX11_cut_183 (by decide) ?_
  refine lv_lload hx hb dX11_cut_184 (lv_at hl 3 rfl) ?_
  obtain ⟨s1, hc, hB⟩ := bindP_inv hB
  refine q_govF (va_runV (As := [.int x6, .int x1, .int 0, .long x4]) (rest := []) C (cr_token hc _) (cwV 4 hts gX11_cut_X11_token rfl rfl rfl (by decide +kernel) ⟨Nat.le_of_ble_eq_true rfl, Nat.le_of_ble_eq_true rfl⟩) (q_preV hK hP (ci := 11) (q0 := 0) rfl rfl rfl (q_preF hN hK hP hD)) rfl rfl hl.1 rfl (lv_room (Nat.le_of_ble_eq_true rfl)) dX11_cut_186 ⟨Nat.le_of_ble_eq_true rfl, Nat.le_of_ble_eq_true rfl⟩) hD hS hA (fun w1 H locs hw hP hD hS => ?_)
  subst hw
  refine lv_iload_n hx hb dX11_cut_189 rfl (lv_at hl 1 rfl) ?_
  refine lv_iload_n hx hb dX11_cut_190 rfl (lv_at hl 2 rfl) ?_
  refine lv_iadd hx hb dX11_cut_191 ?_
  refine lv_istore_n (lv' := [(1, .int (x1 + x3)), (0, .ref h), (3, .int x3), (4, .long x4), (6, .int x6)]) hx hb dX11_cut_192 rfl hl (by decide) rfl (fun ls hl => ?_)
  refine lv_goto (tgt := 291) hx hb dX11_cut_193 (by decide) ?_
  exact br_cut_291 (hk7) _ _ hB p e s0 m below meth c A E H locs ls hP hD hS (lv_sub hl [1, 0] rfl)
set_option maxHeartbeats 4000000 in
set_option maxRecDepth 100000 in
theorem br_cut_173 {l : Launch} {dC : Nat → ClassId} {dI : Nat → Nat → Nat} {cB cI cJ cZ cS : ClassId} {h : Nat} {a : Nat → Nat} {as : List Value} {s' : RS} {k7 : RS → Int32 → Option RS} {k146 : RS → Int32 → Int32 → Int64 → Int32 → Int32 → Option RS} (hk7 : ∀ (s : RS) (x1 : Int32), k7 s x1 = some s' → BlkV l yX11_cut wsX11_cut ({ frames := 2, cells := 0, slots := 0, locals := 49 }) cX11_cut 8 none (dC, dI) (tysA cB cI cJ cZ cS) as 7 (mwS cB cI cJ cZ h a s) [(0, .ref h), (1, .int x1)] [] (fun u => u = (mwS cB cI cJ cZ h a s'))) (hk146 : ∀ (s : RS) (x1 : Int32) (x3 : Int32) (x4 : Int64) (x6 : Int32) (x7 : Int32), k146 s x1 x3 x4 x6 x7 = some s' → BlkV l yX11_cut wsX11_cut ({ frames := 2, cells := 0, slots := 0, locals := 49 }) cX11_cut 8 none (dC, dI) (tysA cB cI cJ cZ cS) as 146 (mwS cB cI cJ cZ h a s) [(0, .ref h), (1, .int x1), (3, .int x3), (4, .long x4), (6, .int x6), (7, .int x7)] [] (fun u => u = (mwS cB cI cJ cZ h a s'))) (s : RS) (x1 : Int32) (x3 : Int32) (x4 : Int64) (x6 : Int32) (x7 : Int32) (hB : r_cut_173 k7 k146 s x1 x3 x4 x6 x7 = some s') : BlkV l yX11_cut wsX11_cut ({ frames := 2, cells := 0, slots := 0, locals := 49 }) cX11_cut 8 none (dC, dI) (tysA cB cI cJ cZ cS) as 173 (mwS cB cI cJ cZ h a s) [(0, .ref h), (1, .int x1), (3, .int x3), (4, .long x4), (6, .int x6), (7, .int x7)] [] (fun u => u = (mwS cB cI cJ cZ h a s')) := by
  intro p e s0 m below meth c A E H locs ls hP hD hS hl
  obtain ⟨C, hr, hlocks, hA, hK, hN⟩ := id E
  obtain ⟨hx, hb, hml, hown, hts⟩ := id C
  unfold r_cut_173 at hB
  refine lv_iinc (v := (x7 + 1)) (lv' := [(7, .int (x7 + 1)), (0, .ref h), (1, .int x1), (3, .int x3), (4, .long x4), (6, .int x6)]) hx hb dX11_cut_173 hl (k := 5) rfl (rfl) (by decide) rfl (fun ls hl => ?_)
  refine lv_goto (tgt := 146) hx hb dX11_cut_176 (by decide) ?_
  exact hk146 _ _ _ _ _ _ hB p e s0 m below meth c A E H locs ls hP hD hS (lv_sub hl [1, 2, 3, 4, 5, 0] rfl)
set_option maxHeartbeats 4000000 in
set_option maxRecDepth 100000 in
theorem br_cut_146 {l : Launch} {dC : Nat → ClassId} {dI : Nat → Nat → Nat} {cB cI cJ cZ cS : ClassId} {h : Nat} {a : Nat → Nat} {as : List Value} {s' : RS} {k7 : RS → Int32 → Option RS} {k146 : RS → Int32 → Int32 → Int64 → Int32 → Int32 → Option RS} (hk7 : ∀ (s : RS) (x1 : Int32), k7 s x1 = some s' → BlkV l yX11_cut wsX11_cut ({ frames := 2, cells := 0, slots := 0, locals := 49 }) cX11_cut 8 none (dC, dI) (tysA cB cI cJ cZ cS) as 7 (mwS cB cI cJ cZ h a s) [(0, .ref h), (1, .int x1)] [] (fun u => u = (mwS cB cI cJ cZ h a s'))) (hk146 : ∀ (s : RS) (x1 : Int32) (x3 : Int32) (x4 : Int64) (x6 : Int32) (x7 : Int32), k146 s x1 x3 x4 x6 x7 = some s' → BlkV l yX11_cut wsX11_cut ({ frames := 2, cells := 0, slots := 0, locals := 49 }) cX11_cut 8 none (dC, dI) (tysA cB cI cJ cZ cS) as 146 (mwS cB cI cJ cZ h a s) [(0, .ref h), (1, .int x1), (3, .int x3), (4, .long x4), (6, .int x6), (7, .int x7)] [] (fun u => u = (mwS cB cI cJ cZ h a s'))) (s : RS) (x1 : Int32) (x3 : Int32) (x4 : Int64) (x6 : Int32) (x7 : Int32) (hB : r_cut_146 k7 k146 s x1 x3 x4 x6 x7 = some s') : BlkV l yX11_cut wsX11_cut ({ frames := 2, cells := 0, slots := 0, locals := 49 }) cX11_cut 8 none (dC, dI) (tysA cB cI cJ cZ cS) as 146 (mwS cB cI cJ cZ h a s) [(0, .ref h), (1, .int x1), (3, .int x3), (4, .long x4), (6, .int x6), (7, .int x7)] [] (fun u => u = (mwS cB cI cJ cZ h a s')) := by
  intro p e s0 m below meth c A E H locs ls hP hD hS hl
  obtain ⟨C, hr, hlocks, hA, hK, hN⟩ := id E
  obtain ⟨hx, hb, hml, hown, hts⟩ := id C
  unfold r_cut_146 at hB
  refine lv_iload hx hb dX11_cut_146 (lv_at hl 5 rfl) ?_
  refine lv_bipush (v := 19) hx hb dX11_cut_148 (by decide) ?_
  refine lv_icmp_ge (tgt := 179) hx hb dX11_cut_150 (by decide) (fun c1 => ?_) (fun c1 => ?_)
  · have hB := if_p hB c1
    exact br_cut_179 (hk7) _ _ _ _ _ hB p e s0 m below meth c A E H locs ls hP hD hS (lv_sub hl [0, 1, 2, 3, 4] rfl)
  · have hB := if_n hB c1
    refine lv_aload_n hx hb dX11_cut_153 rfl (lv_at hl 0 rfl) ?_
    refine q_get (v := .ref (a 9)) C inX11_cut_X11 hK hP 0 rfl rfl 9 (by decide) rfl LX11_cut_34 rfl dX11_cut_154 ?_
    refine lv_iload hx hb dX11_cut_157 (lv_at hl 5 rfl) ?_
    obtain ⟨g2, hB⟩ := guard_inv hB
    refine q_lald (x := (s.g 9 (Int32.toNatClampNeg x7))) C hK hP 7 2 rfl rfl (vpb_in g2) dX11_cut_159 rfl ?_
    refine lv_lload hx hb dX11_cut_160 (lv_at hl 3 rfl) ?_
    refine W.lcmp hx hb dX11_cut_162 ?_
    refine lv_if_ne (tgt := 173) hx hb dX11_cut_163 (by decide) (fun c3 => ?_) (fun c3 => ?_)
    · have hB := if_n hB c3
      exact br_cut_173 (hk7) (hk146) _ _ _ _ _ _ hB p e s0 m below meth c A E H locs ls hP hD hS (lv_sub hl [0, 1, 2, 3, 4, 5] rfl)
    · have hB := if_p hB c3
      refine lv_bipush (v := 20) hx hb dX11_cut_166 (by decide) ?_
      refine lv_iload hx hb dX11_cut_168 (lv_at hl 5 rfl) ?_
      refine lv_iadd hx hb dX11_cut_170 ?_
      refine lv_istore (lv' := [(6, .int (20 + x7)), (0, .ref h), (1, .int x1), (3, .int x3), (4, .long x4), (7, .int x7)]) hx hb dX11_cut_171 hl (by decide) rfl (fun ls hl => ?_)
      exact br_cut_173 (hk7) (hk146) _ _ _ _ _ _ hB p e s0 m below meth c A E H locs ls hP hD hS (lv_sub hl [1, 2, 3, 4, 0, 5] rfl)
theorem br_cut_146L {l : Launch} {dC : Nat → ClassId} {dI : Nat → Nat → Nat} {cB cI cJ cZ cS : ClassId} {h : Nat} {a : Nat → Nat} {as : List Value} {s' : RS} {k7 : RS → Int32 → Option RS} (hk7 : ∀ (s : RS) (x1 : Int32), k7 s x1 = some s' → BlkV l yX11_cut wsX11_cut ({ frames := 2, cells := 0, slots := 0, locals := 49 }) cX11_cut 8 none (dC, dI) (tysA cB cI cJ cZ cS) as 7 (mwS cB cI cJ cZ h a s) [(0, .ref h), (1, .int x1)] [] (fun u => u = (mwS cB cI cJ cZ h a s'))) : ∀ (n : Nat) (s : RS) (x1 : Int32) (x3 : Int32) (x4 : Int64) (x6 : Int32) (x7 : Int32), r_cut_146L k7 n s x1 x3 x4 x6 x7 = some s' → BlkV l yX11_cut wsX11_cut ({ frames := 2, cells := 0, slots := 0, locals := 49 }) cX11_cut 8 none (dC, dI) (tysA cB cI cJ cZ cS) as 146 (mwS cB cI cJ cZ h a s) [(0, .ref h), (1, .int x1), (3, .int x3), (4, .long x4), (6, .int x6), (7, .int x7)] [] (fun u => u = (mwS cB cI cJ cZ h a s')) := by
  intro n
  induction n with
  | zero => intro s x1 x3 x4 x6 x7 hB; exact none_ne hB
  | succ n ih => intro s x1 x3 x4 x6 x7 hB; exact br_cut_146 hk7 ih _ _ _ _ _ _ hB
set_option maxHeartbeats 4000000 in
set_option maxRecDepth 100000 in
theorem br_cut_135 {l : Launch} {dC : Nat → ClassId} {dI : Nat → Nat → Nat} {cB cI cJ cZ cS : ClassId} {h : Nat} {a : Nat → Nat} {as : List Value} {s' : RS} {k7 : RS → Int32 → Option RS} (hk7 : ∀ (s : RS) (x1 : Int32), k7 s x1 = some s' → BlkV l yX11_cut wsX11_cut ({ frames := 2, cells := 0, slots := 0, locals := 49 }) cX11_cut 8 none (dC, dI) (tysA cB cI cJ cZ cS) as 7 (mwS cB cI cJ cZ h a s) [(0, .ref h), (1, .int x1)] [] (fun u => u = (mwS cB cI cJ cZ h a s'))) (s : RS) (x1 : Int32) (x3 : Int32) (x4 : Int64) (t0 : Int32) (hB : r_cut_135 k7 s x1 x3 x4 t0 = some s') : BlkV l yX11_cut wsX11_cut ({ frames := 2, cells := 0, slots := 0, locals := 49 }) cX11_cut 8 none (dC, dI) (tysA cB cI cJ cZ cS) as 135 (mwS cB cI cJ cZ h a s) [(0, .ref h), (1, .int x1), (3, .int x3), (4, .long x4)] [.int t0] (fun u => u = (mwS cB cI cJ cZ h a s')) := by
  intro p e s0 m below meth c A E H locs ls hP hD hS hl
  obtain ⟨C, hr, hlocks, hA, hK, hN⟩ := id E
  obtain ⟨hx, hb, hml, hown, hts⟩ := id C
  unfold r_cut_135 at hB
  refine lv_istore (lv' := [(6, .int t0), (0, .ref h), (1, .int x1), (3, .int x3), (4, .long x4)]) hx hb dX11_cut_135 hl (by decide) rfl (fun ls hl => ?_)
  refine lv_iload_n hx hb dX11_cut_137 rfl (lv_at hl 3 rfl) ?_
  refine lv_bipush (v := 8) hx hb dX11_cut_138 (by decide) ?_
  refine lv_icmp_gt (tgt := 179) hx hb dX11_cut_140 (by decide) (fun c1 => ?_) (fun c1 => ?_)
  · have hB := if_p hB c1
    exact br_cut_179 (hk7) _ _ _ _ _ hB p e s0 m below meth c A E H locs ls hP hD hS (lv_sub hl [1, 2, 3, 4, 0] rfl)
  · have hB := if_n hB c1
    refine lv_iconst (v := 0) hx hb dX11_cut_143 (by decide) ?_
    refine lv_istore (lv' := [(7, .int 0), (6, .int t0), (0, .ref h), (1, .int x1), (3, .int x3), (4, .long x4)]) hx hb dX11_cut_144 hl (by decide) rfl (fun ls hl => ?_)
    exact br_cut_146L (hk7) fu _ _ _ _ _ _ hB p e s0 m below meth c A E H locs ls hP hD hS (lv_sub hl [2, 3, 4, 5, 1, 0] rfl)
set_option maxHeartbeats 4000000 in
set_option maxRecDepth 100000 in
theorem br_cut_118 {l : Launch} {dC : Nat → ClassId} {dI : Nat → Nat → Nat} {cB cI cJ cZ cS : ClassId} {h : Nat} {a : Nat → Nat} {as : List Value} {s' : RS} {k7 : RS → Int32 → Option RS} {k85 : RS → Int32 → Int32 → Int64 → Option RS} (hk7 : ∀ (s : RS) (x1 : Int32), k7 s x1 = some s' → BlkV l yX11_cut wsX11_cut ({ frames := 2, cells := 0, slots := 0, locals := 49 }) cX11_cut 8 none (dC, dI) (tysA cB cI cJ cZ cS) as 7 (mwS cB cI cJ cZ h a s) [(0, .ref h), (1, .int x1)] [] (fun u => u = (mwS cB cI cJ cZ h a s'))) (hk85 : ∀ (s : RS) (x1 : Int32) (x3 : Int32) (x4 : Int64), k85 s x1 x3 x4 = some s' → BlkV l yX11_cut wsX11_cut ({ frames := 2, cells := 0, slots := 0, locals := 49 }) cX11_cut 8 none (dC, dI) (tysA cB cI cJ cZ cS) as 85 (mwS cB cI cJ cZ h a s) [(0, .ref h), (1, .int x1), (3, .int x3), (4, .long x4)] [] (fun u => u = (mwS cB cI cJ cZ h a s'))) (s : RS) (x1 : Int32) (x3 : Int32) (x4 : Int64) (hB : r_cut_118 k7 k85 s x1 x3 x4 = some s') : BlkV l yX11_cut wsX11_cut ({ frames := 2, cells := 0, slots := 0, locals := 49 }) cX11_cut 8 none (dC, dI) (tysA cB cI cJ cZ cS) as 118 (mwS cB cI cJ cZ h a s) [(0, .ref h), (1, .int x1), (3, .int x3), (4, .long x4)] [] (fun u => u = (mwS cB cI cJ cZ h a s')) := by
  intro p e s0 m below meth c A E H locs ls hP hD hS hl
  obtain ⟨C, hr, hlocks, hA, hK, hN⟩ := id E
  obtain ⟨hx, hb, hml, hown, hts⟩ := id C
  unfold r_cut_118 at hB
  refine lv_iinc (v := (x3 + 1)) (lv' := [(3, .int (x3 + 1)), (0, .ref h), (1, .int x1), (4, .long x4)]) hx hb dX11_cut_118 hl (k := 2) rfl (rfl) (by decide) rfl (fun ls hl => ?_)
  refine lv_goto (tgt := 85) hx hb dX11_cut_121 (by decide) ?_
  exact hk85 _ _ _ _ hB p e s0 m below meth c A E H locs ls hP hD hS (lv_sub hl [1, 2, 0, 3] rfl)
set_option maxHeartbeats 4000000 in
set_option maxRecDepth 100000 in
theorem br_cut_85 {l : Launch} {dC : Nat → ClassId} {dI : Nat → Nat → Nat} {cB cI cJ cZ cS : ClassId} {h : Nat} {a : Nat → Nat} {as : List Value} {s' : RS} {k7 : RS → Int32 → Option RS} {k85 : RS → Int32 → Int32 → Int64 → Option RS} (hk7 : ∀ (s : RS) (x1 : Int32), k7 s x1 = some s' → BlkV l yX11_cut wsX11_cut ({ frames := 2, cells := 0, slots := 0, locals := 49 }) cX11_cut 8 none (dC, dI) (tysA cB cI cJ cZ cS) as 7 (mwS cB cI cJ cZ h a s) [(0, .ref h), (1, .int x1)] [] (fun u => u = (mwS cB cI cJ cZ h a s'))) (hk85 : ∀ (s : RS) (x1 : Int32) (x3 : Int32) (x4 : Int64), k85 s x1 x3 x4 = some s' → BlkV l yX11_cut wsX11_cut ({ frames := 2, cells := 0, slots := 0, locals := 49 }) cX11_cut 8 none (dC, dI) (tysA cB cI cJ cZ cS) as 85 (mwS cB cI cJ cZ h a s) [(0, .ref h), (1, .int x1), (3, .int x3), (4, .long x4)] [] (fun u => u = (mwS cB cI cJ cZ h a s'))) (s : RS) (x1 : Int32) (x3 : Int32) (x4 : Int64) (hB : r_cut_85 k7 k85 s x1 x3 x4 = some s') : BlkV l yX11_cut wsX11_cut ({ frames := 2, cells := 0, slots := 0, locals := 49 }) cX11_cut 8 none (dC, dI) (tysA cB cI cJ cZ cS) as 85 (mwS cB cI cJ cZ h a s) [(0, .ref h), (1, .int x1), (3, .int x3), (4, .long x4)] [] (fun u => u = (mwS cB cI cJ cZ h a s')) := by
  intro p e s0 m below meth c A E H locs ls hP hD hS hl
  obtain ⟨C, hr, hlocks, hA, hK, hN⟩ := id E
  obtain ⟨hx, hb, hml, hown, hts⟩ := id C
  unfold r_cut_85 at hB
  refine lv_aload_n hx hb dX11_cut_85 rfl (lv_at hl 0 rfl) ?_
  refine lv_iload_n hx hb dX11_cut_86 rfl (lv_at hl 1 rfl) ?_
  refine lv_iload_n hx hb dX11_cut_87 rfl (lv_at hl 2 rfl) ?_
  refine lv_iadd hx hb dX11_cut_88 ?_
  obtain ⟨q_, s1, hc, hB⟩ := bindI_inv hB
  refine q_goiF (va_runV (As := [.int (x1 + x3)]) (rest := []) C (cr_byteAt hc _) (cwV 1 hts gX11_cut_X11_byteAt rfl rfl rfl (by decide +kernel) ⟨Nat.le_of_ble_eq_true rfl, Nat.le_of_ble_eq_true rfl⟩) (q_preV hK hP (ci := 11) (q0 := 0) rfl rfl rfl (q_preF hN hK hP hD)) rfl rfl hl.1 rfl (lv_room (Nat.le_of_ble_eq_true rfl)) dX11_cut_89 ⟨Nat.le_of_ble_eq_true rfl, Nat.le_of_ble_eq_true rfl⟩) hD hS hA (fun r2 w1 H locs hw hP hD hS => ?_)
  obtain ⟨hq_, hw⟩ := hw; subst hw; subst hq_
  obtain ⟨q_, hc, hB⟩ := bindP_inv hB
  refine q_goi0 (va_runS (As := [.int r2]) (rest := []) C (cr_isLetter hc _) (va_cwS 1 hts gX11_cut_X11_isLetter rfl rfl rfl (by decide +kernel) ⟨Nat.le_of_ble_eq_true rfl, Nat.le_of_ble_eq_true rfl⟩) (q_pre0 hN hK) rfl rfl hl.1 rfl (lv_room (Nat.le_of_ble_eq_true rfl)) dX11_cut_92 ⟨Nat.le_of_ble_eq_true rfl, Nat.le_of_ble_eq_true rfl⟩) hP hD hS hA (fun r3 w1 H locs hw hP hS => ?_)
  subst hw
  refine lv_if_eq (tgt := 124) hx hb dX11_cut_95 (by decide) (fun c4 => ?_) (fun c4 => ?_)
  · have hB := if_p hB c4
    refine lv_iload_n hx hb dX11_cut_124 rfl (lv_at hl 2 rfl) ?_
    refine lv_bipush (v := 8) hx hb dX11_cut_125 (by decide) ?_
    refine lv_icmp_le (tgt := 134) hx hb dX11_cut_127 (by decide) (fun c5 => ?_) (fun c5 => ?_)
    · have hB := if_p hB c5
      refine lv_iconst (v := 1) hx hb dX11_cut_134 (by decide) ?_
      exact br_cut_135 (hk7) _ _ _ _ _ hB p e s0 m below meth c A E H locs ls hP hD hS (lv_sub hl [0, 1, 2, 3] rfl)
    · have hB := if_n hB c5
      refine lv_iconst (v := 3) hx hb dX11_cut_130 (by decide) ?_
      refine lv_goto (tgt := 135) hx hb dX11_cut_131 (by decide) ?_
      exact br_cut_135 (hk7) _ _ _ _ _ hB p e s0 m below meth c A E H locs ls hP hD hS (lv_sub hl [0, 1, 2, 3] rfl)
  · have hB := if_n hB c4
    refine lv_iload_n hx hb dX11_cut_98 rfl (lv_at hl 2 rfl) ?_
    refine lv_bipush (v := 8) hx hb dX11_cut_99 (by decide) ?_
    refine lv_icmp_ge (tgt := 118) hx hb dX11_cut_101 (by decide) (fun c6 => ?_) (fun c6 => ?_)
    · have hB := if_p hB c6
      exact br_cut_118 (hk7) (hk85) _ _ _ _ hB p e s0 m below meth c A E H locs ls hP hD hS (lv_sub hl [0, 1, 2, 3] rfl)
    · have hB := if_n hB c6
      refine lv_lload hx hb dX11_cut_104 (lv_at hl 3 rfl) ?_
      refine lv_aload_n hx hb dX11_cut_106 rfl (lv_at hl 0 rfl) ?_
      refine lv_iload_n hx hb dX11_cut_107 rfl (lv_at hl 1 rfl) ?_
      refine lv_iload_n hx hb dX11_cut_108 rfl (lv_at hl 2 rfl) ?_
      refine lv_iadd hx hb dX11_cut_109 ?_
      obtain ⟨q_, s7, hc, hB⟩ := bindI_inv hB
      refine q_goiF (va_runV (As := [.int (x1 + x3)]) (rest := [.long x4]) C (cr_byteAt hc _) (cwV 1 hts gX11_cut_X11_byteAt rfl rfl rfl (by decide +kernel) ⟨Nat.le_of_ble_eq_true rfl, Nat.le_of_ble_eq_true rfl⟩) (q_preV hK hP (ci := 11) (q0 := 0) rfl rfl rfl (q_preF hN hK hP hD)) rfl rfl hl.1 rfl (lv_room (Nat.le_of_ble_eq_true rfl)) dX11_cut_110 ⟨Nat.le_of_ble_eq_true rfl, Nat.le_of_ble_eq_true rfl⟩) hD hS hA (fun r8 w1 H locs hw hP hD hS => ?_)
      obtain ⟨hq_, hw⟩ := hw; subst hw; subst hq_
      obtain ⟨q_, hc, hB⟩ := bindP_inv hB
      refine q_gol0 (va_runS (As := [.long x4, .int r8]) (rest := []) C (cr_appends hc _) (va_cwS 2 hts gX11_cut_X11_appends rfl rfl rfl (by decide +kernel) ⟨Nat.le_of_ble_eq_true rfl, Nat.le_of_ble_eq_true rfl⟩) (q_pre0 hN hK) rfl rfl hl.1 rfl (lv_room (Nat.le_of_ble_eq_true rfl)) dX11_cut_113 ⟨Nat.le_of_ble_eq_true rfl, Nat.le_of_ble_eq_true rfl⟩) hP hD hS hA (fun r9 w1 H locs hw hP hS => ?_)
      subst hw
      refine lv_lstore (lv' := [(4, .long r9), (0, .ref h), (1, .int x1), (3, .int x3)]) hx hb dX11_cut_116 hl (by decide) rfl (fun ls hl => ?_)
      exact br_cut_118 (hk7) (hk85) _ _ _ _ hB p e s0 m below meth c A E H locs ls hP hD hS (lv_sub hl [1, 2, 3, 0] rfl)
theorem br_cut_85L {l : Launch} {dC : Nat → ClassId} {dI : Nat → Nat → Nat} {cB cI cJ cZ cS : ClassId} {h : Nat} {a : Nat → Nat} {as : List Value} {s' : RS} {k7 : RS → Int32 → Option RS} (hk7 : ∀ (s : RS) (x1 : Int32), k7 s x1 = some s' → BlkV l yX11_cut wsX11_cut ({ frames := 2, cells := 0, slots := 0, locals := 49 }) cX11_cut 8 none (dC, dI) (tysA cB cI cJ cZ cS) as 7 (mwS cB cI cJ cZ h a s) [(0, .ref h), (1, .int x1)] [] (fun u => u = (mwS cB cI cJ cZ h a s'))) : ∀ (n : Nat) (s : RS) (x1 : Int32) (x3 : Int32) (x4 : Int64), r_cut_85L k7 n s x1 x3 x4 = some s' → BlkV l yX11_cut wsX11_cut ({ frames := 2, cells := 0, slots := 0, locals := 49 }) cX11_cut 8 none (dC, dI) (tysA cB cI cJ cZ cS) as 85 (mwS cB cI cJ cZ h a s) [(0, .ref h), (1, .int x1), (3, .int x3), (4, .long x4)] [] (fun u => u = (mwS cB cI cJ cZ h a s')) := by
  intro n
  induction n with
  | zero => intro s x1 x3 x4 hB; exact none_ne hB
  | succ n ih => intro s x1 x3 x4 hB; exact br_cut_85 hk7 ih _ _ _ _ hB
set_option maxHeartbeats 4000000 in
set_option maxRecDepth 100000 in
theorem br_cut_7 {l : Launch} {dC : Nat → ClassId} {dI : Nat → Nat → Nat} {cB cI cJ cZ cS : ClassId} {h : Nat} {a : Nat → Nat} {as : List Value} {s' : RS} {k7 : RS → Int32 → Option RS} (hk7 : ∀ (s : RS) (x1 : Int32), k7 s x1 = some s' → BlkV l yX11_cut wsX11_cut ({ frames := 2, cells := 0, slots := 0, locals := 49 }) cX11_cut 8 none (dC, dI) (tysA cB cI cJ cZ cS) as 7 (mwS cB cI cJ cZ h a s) [(0, .ref h), (1, .int x1)] [] (fun u => u = (mwS cB cI cJ cZ h a s'))) (s : RS) (x1 : Int32) (hB : r_cut_7 k7 s x1 = some s') : BlkV l yX11_cut wsX11_cut ({ frames := 2, cells := 0, slots := 0, locals := 49 }) cX11_cut 8 none (dC, dI) (tysA cB cI cJ cZ cS) as 7 (mwS cB cI cJ cZ h a s) [(0, .ref h), (1, .int x1)] [] (fun u => u = (mwS cB cI cJ cZ h a s')) := by
  intro p e s0 m below meth c A E H locs ls hP hD hS hl
  obtain ⟨C, hr, hlocks, hA, hK, hN⟩ := id E
  obtain ⟨hx, hb, hml, hown, hts⟩ := id C
  unfold r_cut_7 at hB
  refine lv_aload_n hx hb dX11_cut_7 rfl (lv_at hl 0 rfl) ?_
  refine q_get (v := .int (s.v 10)) C inX11_cut_X11 hK hP 0 rfl rfl 10 (by decide) rfl LX11_cut_163 rfl dX11_cut_8 ?_
  refine lv_sipush (v := 400) hx hb dX11_cut_11 (by decide) ?_
  refine lv_icmp_gt (tgt := 294) hx hb dX11_cut_14 (by decide) (fun c1 => ?_) (fun c1 => ?_)
  · have hB := if_p hB c1
    exact q_vret C hr hlocks hK hP hD hS (Nat.le_of_ble_eq_true rfl) (Nat.le_of_ble_eq_true rfl) dX11_cut_294 (by cases hB; rfl)
  · have hB := if_n hB c1
    refine lv_aload_n hx hb dX11_cut_17 rfl (lv_at hl 0 rfl) ?_
    refine lv_iload_n hx hb dX11_cut_18 rfl (lv_at hl 1 rfl) ?_
    obtain ⟨q_, s2, hc, hB⟩ := bindI_inv hB
    refine q_goiF (va_runV (As := [.int x1]) (rest := []) C (cr_byteAt hc _) (cwV 1 hts gX11_cut_X11_byteAt rfl rfl rfl (by decide +kernel) ⟨Nat.le_of_ble_eq_true rfl, Nat.le_of_ble_eq_true rfl⟩) (q_preV hK hP (ci := 11) (q0 := 0) rfl rfl rfl (q_preF hN hK hP hD)) rfl rfl hl.1 rfl (lv_room (Nat.le_of_ble_eq_true rfl)) dX11_cut_19 ⟨Nat.le_of_ble_eq_true rfl, Nat.le_of_ble_eq_true rfl⟩) hD hS hA (fun r3 w1 H locs hw hP hD hS => ?_)
    obtain ⟨hq_, hw⟩ := hw; subst hw; subst hq_
    refine lv_istore_n (lv' := [(2, .int r3), (0, .ref h), (1, .int x1)]) hx hb dX11_cut_22 rfl hl (by decide) rfl (fun ls hl => ?_)
    refine lv_iload_n hx hb dX11_cut_23 rfl (lv_at hl 2 rfl) ?_
    refine lv_aload_n hx hb dX11_cut_24 rfl (lv_at hl 1 rfl) ?_
    refine q_get (v := .int (s2.v 4)) C inX11_cut_X11 hK hP 0 rfl rfl 4 (by decide) rfl LX11_cut_154 rfl dX11_cut_25 ?_
    refine lv_icmp_lt (tgt := 43) hx hb dX11_cut_28 (by decide) (fun c4 => ?_) (fun c4 => ?_)
    · have hB := if_p hB c4
      refine lv_iload_n hx hb dX11_cut_43 rfl (lv_at hl 0 rfl) ?_
      refine lv_bipush (v := 9) hx hb dX11_cut_44 (by decide) ?_
      refine lv_icmp_eq (tgt := 67) hx hb dX11_cut_46 (by decide) (fun c5 => ?_) (fun c5 => ?_)
      · have hB := if_p hB c5
        exact br_cut_67 (hk7) _ _ hB p e s0 m below meth c A E H locs ls hP hD hS (lv_sub hl [1, 2] rfl)
      · have hB := if_n hB c5
        refine lv_iload_n hx hb dX11_cut_49 rfl (lv_at hl 0 rfl) ?_
        refine lv_bipush (v := 10) hx hb dX11_cut_50 (by decide) ?_
        refine lv_icmp_eq (tgt := 67) hx hb dX11_cut_52 (by decide) (fun c6 => ?_) (fun c6 => ?_)
        · have hB := if_p hB c6
          exact br_cut_67 (hk7) _ _ hB p e s0 m below meth c A E H locs ls hP hD hS (lv_sub hl [1, 2] rfl)
        · have hB := if_n hB c6
          refine lv_iload_n hx hb dX11_cut_55 rfl (lv_at hl 0 rfl) ?_
          refine lv_bipush (v := 13) hx hb dX11_cut_56 (by decide) ?_
          refine lv_icmp_eq (tgt := 67) hx hb dX11_cut_58 (by decide) (fun c7 => ?_) (fun c7 => ?_)
          · have hB := if_p hB c7
            exact br_cut_67 (hk7) _ _ hB p e s0 m below meth c A E H locs ls hP hD hS (lv_sub hl [1, 2] rfl)
          · have hB := if_n hB c7
            refine lv_iload_n hx hb dX11_cut_61 rfl (lv_at hl 0 rfl) ?_
            refine lv_bipush (v := 32) hx hb dX11_cut_62 (by decide) ?_
            refine lv_icmp_ne (tgt := 73) hx hb dX11_cut_64 (by decide) (fun c8 => ?_) (fun c8 => ?_)
            · have hB := if_n hB c8
              refine lv_iload_n hx hb dX11_cut_73 rfl (lv_at hl 0 rfl) ?_
              obtain ⟨q_, hc, hB⟩ := bindP_inv hB
              refine q_goi0 (va_runS (As := [.int r3]) (rest := []) C (cr_isLetter hc _) (va_cwS 1 hts gX11_cut_X11_isLetter rfl rfl rfl (by decide +kernel) ⟨Nat.le_of_ble_eq_true rfl, Nat.le_of_ble_eq_true rfl⟩) (q_pre0 hN hK) rfl rfl hl.1 rfl (lv_room (Nat.le_of_ble_eq_true rfl)) dX11_cut_74 ⟨Nat.le_of_ble_eq_true rfl, Nat.le_of_ble_eq_true rfl⟩) hP hD hS hA (fun r9 w1 H locs hw hP hS => ?_)
              subst hw
              refine lv_if_eq (tgt := 196) hx hb dX11_cut_77 (by decide) (fun c10 => ?_) (fun c10 => ?_)
              · have hB := if_p hB c10
                refine lv_iload_n hx hb dX11_cut_196 rfl (lv_at hl 0 rfl) ?_
                obtain ⟨q_, hc, hB⟩ := bindP_inv hB
                refine q_goi0 (va_runS (As := [.int r3]) (rest := []) C (cr_isDigit hc _) (va_cwS 1 hts gX11_cut_X11_isDigit rfl rfl rfl (by decide +kernel) ⟨Nat.le_of_ble_eq_true rfl, Nat.le_of_ble_eq_true rfl⟩) (q_pre0 hN hK) rfl rfl hl.1 rfl (lv_room (Nat.le_of_ble_eq_true rfl)) dX11_cut_197 ⟨Nat.le_of_ble_eq_true rfl, Nat.le_of_ble_eq_true rfl⟩) hP hD hS hA (fun r11 w1 H locs hw hP hS => ?_)
                subst hw
                refine lv_if_eq (tgt := 275) hx hb dX11_cut_200 (by decide) (fun c12 => ?_) (fun c12 => ?_)
                · have hB := if_p hB c12
                  refine lv_iload_n hx hb dX11_cut_275 rfl (lv_at hl 2 rfl) ?_
                  refine lv_aload_n hx hb dX11_cut_276 rfl (lv_at hl 1 rfl) ?_
                  refine lv_iload_n hx hb dX11_cut_277 rfl (lv_at hl 2 rfl) ?_
                  refine lv_iload_n hx hb dX11_cut_278 rfl (lv_at hl 0 rfl) ?_
                  refine lv_aload_n hx hb dX11_cut_279 rfl (lv_at hl 1 rfl) ?_
                  refine lv_iload_n hx hb dX11_cut_280 rfl (lv_at hl 2 rfl) ?_
                  refine lv_iconst (v := 1) hx hb dX11_cut_281 (by decide) ?_
                  refine lv_iadd hx hb dX11_cut_282 ?_
                  obtain ⟨q_, s13, hc, hB⟩ := bindI_inv hB
                  refine q_goiF (va_runV (As := [.int (x1 + 1)]) (rest := [.int r3, .int x1, .ref h, .int x1]) C (cr_byteAt hc _) (cwV 1 hts gX11_cut_X11_byteAt rfl rfl rfl (by decide +kernel) ⟨Nat.le_of_ble_eq_true rfl, Nat.le_of_ble_eq_true rfl⟩) (q_preV hK hP (ci := 11) (q0 := 0) rfl rfl rfl (q_preF hN hK hP hD)) rfl rfl hl.1 rfl (lv_room (Nat.le_of_ble_eq_true rfl)) dX11_cut_283 ⟨Nat.le_of_ble_eq_true rfl, Nat.le_of_ble_eq_true rfl⟩) hD hS hA (fun r14 w1 H locs hw hP hD hS => ?_)
                  obtain ⟨hq_, hw⟩ := hw; subst hw; subst hq_
                  obtain ⟨q_, s15, hc, hB⟩ := bindI_inv hB
                  refine q_goiF (va_runV (As := [.int x1, .int r3, .int r14]) (rest := [.int x1]) C (cr_sign hc _) (cwV 3 hts gX11_cut_X11_sign rfl rfl rfl (by decide +kernel) ⟨Nat.le_of_ble_eq_true rfl, Nat.le_of_ble_eq_true rfl⟩) (q_preV hK hP (ci := 11) (q0 := 0) rfl rfl rfl (q_preF hN hK hP hD)) rfl rfl hl.1 rfl (lv_room (Nat.le_of_ble_eq_true rfl)) dX11_cut_286 ⟨Nat.le_of_ble_eq_true rfl, Nat.le_of_ble_eq_true rfl⟩) hD hS hA (fun r16 w1 H locs hw hP hD hS => ?_)
                  obtain ⟨hq_, hw⟩ := hw; subst hw; subst hq_
                  refine lv_iadd hx hb dX11_cut_289 ?_
                  refine lv_istore_n (lv' := [(1, .int (x1 + r16)), (2, .int r3), (0, .ref h)]) hx hb dX11_cut_290 rfl hl (by decide) rfl (fun ls hl => ?_)
                  exact br_cut_291 (hk7) _ _ hB p e s0 m below meth c A E H locs ls hP hD hS (lv_sub hl [2, 0] rfl)
                · have hB := if_n hB c12
                  refine lv_iconst (v := 0) hx hb dX11_cut_203 (by decide) ?_
                  refine lv_istore_n (lv' := [(3, .int 0), (2, .int r3), (0, .ref h), (1, .int x1)]) hx hb dX11_cut_204 rfl hl (by decide) rfl (fun ls hl => ?_)
                  refine lv_iconst (v := 0) hx hb dX11_cut_205 (by decide) ?_
                  refine lv_istore (lv' := [(4, .int 0), (3, .int 0), (2, .int r3), (0, .ref h), (1, .int x1)]) hx hb dX11_cut_206 hl (by decide) rfl (fun ls hl => ?_)
                  exact br_cut_208L (hk7) fu _ _ _ _ hB p e s0 m below meth c A E H locs ls hP hD hS (lv_sub hl [3, 4, 1, 0] rfl)
              · have hB := if_n hB c10
                refine lv_iconst (v := 0) hx hb dX11_cut_80 (by decide) ?_
                refine lv_istore_n (lv' := [(3, .int 0), (2, .int r3), (0, .ref h), (1, .int x1)]) hx hb dX11_cut_81 rfl hl (by decide) rfl (fun ls hl => ?_)
                refine lv_lconst (v := 0) hx hb dX11_cut_82 (by decide) ?_
                refine lv_lstore (lv' := [(4, .long 0), (3, .int 0), (2, .int r3), (0, .ref h), (1, .int x1)]) hx hb dX11_cut_83 hl (by decide) rfl (fun ls hl => ?_)
                exact br_cut_85L (hk7) fu _ _ _ _ hB p e s0 m below meth c A E H locs ls hP hD hS (lv_sub hl [3, 4, 1, 0] rfl)
            · have hB := if_p hB c8
              exact br_cut_67 (hk7) _ _ hB p e s0 m below meth c A E H locs ls hP hD hS (lv_sub hl [1, 2] rfl)
    · have hB := if_n hB c4
      refine lv_aload_n hx hb dX11_cut_31 rfl (lv_at hl 1 rfl) ?_
      refine lv_iconst (v := 0) hx hb dX11_cut_32 (by decide) ?_
      refine lv_aload_n hx hb dX11_cut_33 rfl (lv_at hl 1 rfl) ?_
      refine q_get (v := .int (s2.v 4)) C inX11_cut_X11 hK hP 0 rfl rfl 4 (by decide) rfl LX11_cut_154 rfl dX11_cut_34 ?_
      refine lv_iconst (v := 0) hx hb dX11_cut_37 (by decide) ?_
      refine lv_lconst (v := 0) hx hb dX11_cut_38 (by decide) ?_
      obtain ⟨s17, hc, hB⟩ := bindP_inv hB
      refine q_govF (va_runV (As := [.int 0, .int (s2.v 4), .int 0, .long 0]) (rest := []) C (cr_token hc _) (cwV 4 hts gX11_cut_X11_token rfl rfl rfl (by decide +kernel) ⟨Nat.le_of_ble_eq_true rfl, Nat.le_of_ble_eq_true rfl⟩) (q_preV hK hP (ci := 11) (q0 := 0) rfl rfl rfl (q_preF hN hK hP hD)) rfl rfl hl.1 rfl (lv_room (Nat.le_of_ble_eq_true rfl)) dX11_cut_39 ⟨Nat.le_of_ble_eq_true rfl, Nat.le_of_ble_eq_true rfl⟩) hD hS hA (fun w1 H locs hw hP hD hS => ?_)
      subst hw
      exact q_vret C hr hlocks hK hP hD hS (Nat.le_of_ble_eq_true rfl) (Nat.le_of_ble_eq_true rfl) dX11_cut_42 (by cases hB; rfl)
theorem br_cut_7L {l : Launch} {dC : Nat → ClassId} {dI : Nat → Nat → Nat} {cB cI cJ cZ cS : ClassId} {h : Nat} {a : Nat → Nat} {as : List Value} {s' : RS} : ∀ (n : Nat) (s : RS) (x1 : Int32), r_cut_7L n s x1 = some s' → BlkV l yX11_cut wsX11_cut ({ frames := 2, cells := 0, slots := 0, locals := 49 }) cX11_cut 8 none (dC, dI) (tysA cB cI cJ cZ cS) as 7 (mwS cB cI cJ cZ h a s) [(0, .ref h), (1, .int x1)] [] (fun u => u = (mwS cB cI cJ cZ h a s')) := by
  intro n
  induction n with
  | zero => intro s x1 hB; exact none_ne hB
  | succ n ih => intro s x1 hB; exact br_cut_7 ih _ _ hB
set_option maxHeartbeats 4000000 in
set_option maxRecDepth 100000 in
theorem br_cut {l : Launch} {dC : Nat → ClassId} {dI : Nat → Nat → Nat} {cB cI cJ cZ cS : ClassId} {h : Nat} {a : Nat → Nat} {as : List Value} {s' : RS} (s : RS) (hB : r_cut s = some s') : BlkV l yX11_cut wsX11_cut ({ frames := 2, cells := 0, slots := 0, locals := 49 }) cX11_cut 8 none (dC, dI) (tysA cB cI cJ cZ cS) as 0 (mwS cB cI cJ cZ h a s) [(0, .ref h)] [] (fun u => u = (mwS cB cI cJ cZ h a s')) := by
  intro p e s0 m below meth c A E H locs ls hP hD hS hl
  obtain ⟨C, hr, hlocks, hA, hK, hN⟩ := id E
  obtain ⟨hx, hb, hml, hown, hts⟩ := id C
  unfold r_cut at hB
  refine lv_aload_n hx hb dX11_cut_0 rfl (lv_at hl 0 rfl) ?_
  refine lv_iconst (v := 0) hx hb dX11_cut_1 (by decide) ?_
  obtain ⟨s1, hs2, hB⟩ := letS_inv hB
  refine q_put (ty := .int) (w2 := (mwS cB cI cJ cZ h a s1)) tyX11 tyX11_ok nmX11 C inX11_cut_X11 hK hP hD hS 0 rfl rfl 10 (by decide) rfl LX11_cut_163 rfl (by decide +kernel) (rfl) rfl (Nat.le_of_ble_eq_true rfl) dX11_cut_2 (mwS_v10 hs2) (fun H locs hP hD hS => ?_)
  refine lv_iconst (v := 0) hx hb dX11_cut_5 (by decide) ?_
  refine lv_istore_n (lv' := [(1, .int 0), (0, .ref h)]) hx hb dX11_cut_6 rfl hl (by decide) rfl (fun ls hl => ?_)
  exact br_cut_7L fu _ _ hB p e s0 m below meth c A E H locs ls hP hD hS (lv_sub hl [1, 0] rfl)
theorem cr_cut {l : Launch} {dC : Nat → ClassId} {dI : Nat → Nat → Nat} {cB cI cJ cZ cS : ClassId} {h : Nat} {a : Nat → Nat} {s' : RS} {s : RS} (hB : r_cut s = some s') : CV l yX11_cut wsX11_cut ({ frames := 2, cells := 0, slots := 0, locals := 49 }) (dC, dI) (tysA cB cI cJ cZ cS) (mwS cB cI cJ cZ h a s) [.ref h] (fun u => u = (mwS cB cI cJ cZ h a s')) :=
  CV_of (cc := cX11_cut) (maxL := 8) (ret := none) (by decide) rfl (Nat.le_of_ble_eq_true rfl) (br_cut _ hB)
