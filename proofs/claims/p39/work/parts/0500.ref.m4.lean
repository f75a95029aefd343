section
theorem ggX11_feed_X11_put : GoodIn wsX11_feed wsX11_put := gi_sub (fun w h => List.mem_cons_of_mem _ (List.mem_append_left _ (List.mem_append_right _ h))) gd_wsX11_put
set_option maxRecDepth 20000 in
theorem gX11_feed_X11_put : GoodIn wsX11_feed (wsV RX11 151 RX11 yX11_put wsX11_put) := goodIn_app (goodIn_r _ [2, 3, 4, 5] (by decide +kernel) (by decide +kernel)) ggX11_feed_X11_put
theorem dX11_feed_0 : decode cX11_feed 0 = .ok (.aload_n 0, 1) := dc1_42 (by decide +kernel)
theorem dX11_feed_1 : decode cX11_feed 1 = .ok (.getfield 148, 3) := dcw_180 (by decide +kernel)
theorem dX11_feed_4 : decode cX11_feed 4 = .ok (.bipush 20, 2) := dcb_16 (n := 20) (by decide +kernel)
theorem dX11_feed_6 : decode cX11_feed 6 = .ok (.iadd, 1) := dc1_96 (by decide +kernel)
theorem dX11_feed_7 : decode cX11_feed 7 = .ok (.sipush 2000, 3) := dcs_17 (n := 2000) (by decide +kernel)
theorem dX11_feed_10 : decode cX11_feed 10 = .ok (.if_icmp .le 5, 3) := dcs_164 (n := 5) (by decide +kernel)
theorem dX11_feed_13 : decode cX11_feed 13 = .ok (.iconst (-1), 1) := dc1_2 (by decide +kernel)
theorem dX11_feed_14 : decode cX11_feed 14 = .ok (.ireturn, 1) := dc1_172 (by decide +kernel)
theorem dX11_feed_15 : decode cX11_feed 15 = .ok (.aload_n 0, 1) := dc1_42 (by decide +kernel)
theorem dX11_feed_16 : decode cX11_feed 16 = .ok (.iload_n 1, 1) := dc1_27 (by decide +kernel)
theorem dX11_feed_17 : decode cX11_feed 17 = .ok (.invokevirtual 151, 3) := dcw_182 (by decide +kernel)
theorem dX11_feed_20 : decode cX11_feed 20 = .ok (.aload_n 0, 1) := dc1_42 (by decide +kernel)
theorem dX11_feed_21 : decode cX11_feed 21 = .ok (.iload_n 2, 1) := dc1_28 (by decide +kernel)
theorem dX11_feed_22 : decode cX11_feed 22 = .ok (.invokevirtual 151, 3) := dcw_182 (by decide +kernel)
theorem dX11_feed_25 : decode cX11_feed 25 = .ok (.aload_n 0, 1) := dc1_42 (by decide +kernel)
theorem dX11_feed_26 : decode cX11_feed 26 = .ok (.iload_n 3, 1) := dc1_29 (by decide +kernel)
theorem dX11_feed_27 : decode cX11_feed 27 = .ok (.invokevirtual 151, 3) := dcw_182 (by decide +kernel)
theorem dX11_feed_30 : decode cX11_feed 30 = .ok (.aload_n 0, 1) := dc1_42 (by decide +kernel)
theorem dX11_feed_31 : decode cX11_feed 31 = .ok (.iload 4, 2) := dcu_21 (by decide +kernel)
theorem dX11_feed_33 : decode cX11_feed 33 = .ok (.invokevirtual 151, 3) := dcw_182 (by decide +kernel)
theorem dX11_feed_36 : decode cX11_feed 36 = .ok (.aload_n 0, 1) := dc1_42 (by decide +kernel)
theorem dX11_feed_37 : decode cX11_feed 37 = .ok (.iload 5, 2) := dcu_21 (by decide +kernel)
theorem dX11_feed_39 : decode cX11_feed 39 = .ok (.invokevirtual 151, 3) := dcw_182 (by decide +kernel)
theorem dX11_feed_42 : decode cX11_feed 42 = .ok (.aload_n 0, 1) := dc1_42 (by decide +kernel)
theorem dX11_feed_43 : decode cX11_feed 43 = .ok (.getfield 148, 3) := dcw_180 (by decide +kernel)
theorem dX11_feed_46 : decode cX11_feed 46 = .ok (.ireturn, 1) := dc1_172 (by decide +kernel)
theorem dX11_put_0 : decode cX11_put 0 = .ok (.bipush 24, 2) := dcb_16 (n := 24) (by decide +kernel)
theorem dX11_put_2 : decode cX11_put 2 = .ok (.istore_n 2, 1) := dc1_61 (by decide +kernel)
theorem dX11_put_3 : decode cX11_put 3 = .ok (.iload_n 2, 1) := dc1_28 (by decide +kernel)
theorem dX11_put_4 : decode cX11_put 4 = .ok (.ifCond .lt 32, 3) := dcs_155 (n := 32) (by decide +kernel)
theorem dX11_put_7 : decode cX11_put 7 = .ok (.aload_n 0, 1) := dc1_42 (by decide +kernel)
theorem dX11_put_8 : decode cX11_put 8 = .ok (.getfield 13, 3) := dcw_180 (by decide +kernel)
theorem dX11_put_11 : decode cX11_put 11 = .ok (.aload_n 0, 1) := dc1_42 (by decide +kernel)
theorem dX11_put_12 : decode cX11_put 12 = .ok (.getfield 148, 3) := dcw_180 (by decide +kernel)
theorem dX11_put_15 : decode cX11_put 15 = .ok (.iload_n 1, 1) := dc1_27 (by decide +kernel)
theorem dX11_put_16 : decode cX11_put 16 = .ok (.iload_n 2, 1) := dc1_28 (by decide +kernel)
theorem dX11_put_17 : decode cX11_put 17 = .ok (.ishr, 1) := dc1_122 (by decide +kernel)
theorem dX11_put_18 : decode cX11_put 18 = .ok (.i2b, 1) := dc1_145 (by decide +kernel)
theorem dX11_put_19 : decode cX11_put 19 = .ok (.bastore, 1) := dc1_84 (by decide +kernel)
theorem dX11_put_20 : decode cX11_put 20 = .ok (.aload_n 0, 1) := dc1_42 (by decide +kernel)
theorem dX11_put_21 : decode cX11_put 21 = .ok (.dup, 1) := dc1_89 (by decide +kernel)
theorem dX11_put_22 : decode cX11_put 22 = .ok (.getfield 148, 3) := dcw_180 (by decide +kernel)
theorem dX11_put_25 : decode cX11_put 25 = .ok (.iconst 1, 1) := dc1_4 (by decide +kernel)
theorem dX11_put_26 : decode cX11_put 26 = .ok (.iadd, 1) := dc1_96 (by decide +kernel)
theorem dX11_put_27 : decode cX11_put 27 = .ok (.putfield 148, 3) := dcw_181 (by decide +kernel)
theorem dX11_put_30 : decode cX11_put 30 = .ok (.iinc 2 (-8), 3) := dc_iinc (m := 248) (by decide +kernel)
theorem dX11_put_33 : decode cX11_put 33 = .ok (.goto (-30), 3) := dcs_167 (n := 65506) (by decide +kernel)
theorem dX11_put_36 : decode cX11_put 36 = .ok (.return_, 1) := dc1_177 (by decide +kernel)
theorem dX11_back_0 : decode cX11_back 0 = .ok (.iload_n 1, 1) := dc1_27 (by decide +kernel)
theorem dX11_back_1 : decode cX11_back 1 = .ok (.ifCond .lt 11, 3) := dcs_155 (n := 11) (by decide +kernel)
theorem dX11_back_4 : decode cX11_back 4 = .ok (.iload_n 1, 1) := dc1_27 (by decide +kernel)
theorem dX11_back_5 : decode cX11_back 5 = .ok (.aload_n 0, 1) := dc1_42 (by decide +kernel)
theorem dX11_back_6 : decode cX11_back 6 = .ok (.getfield 148, 3) := dcw_180 (by decide +kernel)
theorem dX11_back_9 : decode cX11_back 9 = .ok (.if_icmp .le 5, 3) := dcs_164 (n := 5) (by decide +kernel)
theorem dX11_back_12 : decode cX11_back 12 = .ok (.iconst (-1), 1) := dc1_2 (by decide +kernel)
theorem dX11_back_13 : decode cX11_back 13 = .ok (.ireturn, 1) := dc1_172 (by decide +kernel)
theorem dX11_back_14 : decode cX11_back 14 = .ok (.aload_n 0, 1) := dc1_42 (by decide +kernel)
theorem dX11_back_15 : decode cX11_back 15 = .ok (.dup, 1) := dc1_89 (by decide +kernel)
theorem dX11_back_16 : decode cX11_back 16 = .ok (.getfield 148, 3) := dcw_180 (by decide +kernel)
theorem dX11_back_19 : decode cX11_back 19 = .ok (.iload_n 1, 1) := dc1_27 (by decide +kernel)
theorem dX11_back_20 : decode cX11_back 20 = .ok (.isub, 1) := dc1_100 (by decide +kernel)
theorem dX11_back_21 : decode cX11_back 21 = .ok (.putfield 148, 3) := dcw_181 (by decide +kernel)
theorem dX11_back_24 : decode cX11_back 24 = .ok (.aload_n 0, 1) := dc1_42 (by decide +kernel)
theorem dX11_back_25 : decode cX11_back 25 = .ok (.getfield 148, 3) := dcw_180 (by decide +kernel)
theorem dX11_back_28 : decode cX11_back 28 = .ok (.ireturn, 1) := dc1_172 (by decide +kernel)
theorem dX11_byteAt_0 : decode cX11_byteAt 0 = .ok (.iload_n 1, 1) := dc1_27 (by decide +kernel)
theorem dX11_byteAt_1 : decode cX11_byteAt 1 = .ok (.aload_n 0, 1) := dc1_42 (by decide +kernel)
theorem dX11_byteAt_2 : decode cX11_byteAt 2 = .ok (.getfield 154, 3) := dcw_180 (by decide +kernel)
theorem dX11_byteAt_5 : decode cX11_byteAt 5 = .ok (.if_icmp .ge 16, 3) := dcs_162 (n := 16) (by decide +kernel)
theorem dX11_byteAt_8 : decode cX11_byteAt 8 = .ok (.aload_n 0, 1) := dc1_42 (by decide +kernel)
theorem dX11_byteAt_9 : decode cX11_byteAt 9 = .ok (.getfield 17, 3) := dcw_180 (by decide +kernel)
theorem dX11_byteAt_12 : decode cX11_byteAt 12 = .ok (.iload_n 1, 1) := dc1_27 (by decide +kernel)
theorem dX11_byteAt_13 : decode cX11_byteAt 13 = .ok (.baload, 1) := dc1_51 (by decide +kernel)
theorem dX11_byteAt_14 : decode cX11_byteAt 14 = .ok (.sipush 255, 3) := dcs_17 (n := 255) (by decide +kernel)
theorem dX11_byteAt_17 : decode cX11_byteAt 17 = .ok (.iand, 1) := dc1_126 (by decide +kernel)
theorem dX11_byteAt_18 : decode cX11_byteAt 18 = .ok (.goto 4, 3) := dcs_167 (n := 4) (by decide +kernel)
theorem dX11_byteAt_21 : decode cX11_byteAt 21 = .ok (.iconst 0, 1) := dc1_3 (by decide +kernel)
theorem dX11_byteAt_22 : decode cX11_byteAt 22 = .ok (.ireturn, 1) := dc1_172 (by decide +kernel)
theorem dX11_isDigit_0 : decode cX11_isDigit 0 = .ok (.iload_n 0, 1) := dc1_26 (by decide +kernel)
theorem dX11_isDigit_1 : decode cX11_isDigit 1 = .ok (.bipush 48, 2) := dcb_16 (n := 48) (by decide +kernel)
theorem dX11_isDigit_3 : decode cX11_isDigit 3 = .ok (.if_icmp .lt 13, 3) := dcs_161 (n := 13) (by decide +kernel)
theorem dX11_isDigit_6 : decode cX11_isDigit 6 = .ok (.iload_n 0, 1) := dc1_26 (by decide +kernel)
theorem dX11_isDigit_7 : decode cX11_isDigit 7 = .ok (.bipush 57, 2) := dcb_16 (n := 57) (by decide +kernel)
theorem dX11_isDigit_9 : decode cX11_isDigit 9 = .ok (.if_icmp .gt 7, 3) := dcs_163 (n := 7) (by decide +kernel)
theorem dX11_isDigit_12 : decode cX11_isDigit 12 = .ok (.iconst 1, 1) := dc1_4 (by decide +kernel)
theorem dX11_isDigit_13 : decode cX11_isDigit 13 = .ok (.goto 4, 3) := dcs_167 (n := 4) (by decide +kernel)
theorem dX11_isDigit_16 : decode cX11_isDigit 16 = .ok (.iconst 0, 1) := dc1_3 (by decide +kernel)
theorem dX11_isDigit_17 : decode cX11_isDigit 17 = .ok (.ireturn, 1) := dc1_172 (by decide +kernel)
theorem dX11_isLetter_0 : decode cX11_isLetter 0 = .ok (.iload_n 0, 1) := dc1_26 (by decide +kernel)
theorem dX11_isLetter_1 : decode cX11_isLetter 1 = .ok (.bipush 97, 2) := dcb_16 (n := 97) (by decide +kernel)
theorem dX11_isLetter_3 : decode cX11_isLetter 3 = .ok (.if_icmp .lt 13, 3) := dcs_161 (n := 13) (by decide +kernel)
theorem dX11_isLetter_6 : decode cX11_isLetter 6 = .ok (.iload_n 0, 1) := dc1_26 (by decide +kernel)
theorem dX11_isLetter_7 : decode cX11_isLetter 7 = .ok (.bipush 122, 2) := dcb_16 (n := 122) (by decide +kernel)
theorem dX11_isLetter_9 : decode cX11_isLetter 9 = .ok (.if_icmp .gt 7, 3) := dcs_163 (n := 7) (by decide +kernel)
theorem dX11_isLetter_12 : decode cX11_isLetter 12 = .ok (.iconst 1, 1) := dc1_4 (by decide +kernel)
theorem dX11_isLetter_13 : decode cX11_isLetter 13 = .ok (.goto 4, 3) := dcs_167 (n := 4) (by decide +kernel)
theorem dX11_isLetter_16 : decode cX11_isLetter 16 = .ok (.iconst 0, 1) := dc1_3 (by decide +kernel)
theorem dX11_isLetter_17 : decode cX11_isLetter 17 = .ok (.ireturn, 1) := dc1_172 (by decide +kernel)
theorem dX11_appends_0 : decode cX11_appends 0 = .ok (.iload_n 2, 1) := dc1_28 (by decide +kernel)
theorem dX11_appends_1 : decode cX11_appends 1 = .ok (.ifCond .ne 7, 3) := dcs_154 (n := 7) (by decide +kernel)
theorem dX11_appends_4 : decode cX11_appends 4 = .ok (.lload_n 0, 1) := dc1_30 (by decide +kernel)
theorem dX11_appends_5 : decode cX11_appends 5 = .ok (.goto 16, 3) := dcs_167 (n := 16) (by decide +kernel)
theorem dX11_appends_8 : decode cX11_appends 8 = .ok (.ldc2_w 157, 3) := dcw_20 (by decide +kernel)
theorem dX11_appends_11 : decode cX11_appends 11 = .ok (.lload_n 0, 1) := dc1_30 (by decide +kernel)
theorem dX11_appends_12 : decode cX11_appends 12 = .ok (.lmul, 1) := dc1_105 (by decide +kernel)
theorem dX11_appends_13 : decode cX11_appends 13 = .ok (.iload_n 2, 1) := dc1_28 (by decide +kernel)
theorem dX11_appends_14 : decode cX11_appends 14 = .ok (.bipush 97, 2) := dcb_16 (n := 97) (by decide +kernel)
theorem dX11_appends_16 : decode cX11_appends 16 = .ok (.isub, 1) := dc1_100 (by decide +kernel)
theorem dX11_appends_17 : decode cX11_appends 17 = .ok (.iconst 1, 1) := dc1_4 (by decide +kernel)
theorem dX11_appends_18 : decode cX11_appends 18 = .ok (.iadd, 1) := dc1_96 (by decide +kernel)
theorem dX11_appends_19 : decode cX11_appends 19 = .ok (.i2l, 1) := dc1_133 (by decide +kernel)
theorem dX11_appends_20 : decode cX11_appends 20 = .ok (.ladd, 1) := dc1_97 (by decide +kernel)
theorem dX11_appends_21 : decode cX11_appends 21 = .ok (.lreturn, 1) := dc1_173 (by decide +kernel)
theorem ggX11_word_X11_appends : GoodIn wsX11_word wsX11_appends := gi_sub (fun w h => List.mem_cons_of_mem _ (List.mem_append_right _ h)) gd_wsX11_appends
set_option maxRecDepth 20000 in
theorem gX11_word_X11_appends : GoodIn wsX11_word (va_wsS RX11 159 yX11_appends wsX11_appends) := goodIn_app (goodIn_of _ (by decide +kernel)) ggX11_word_X11_appends
theorem dX11_word_0 : decode cX11_word 0 = .ok (.lconst 0, 1) := dc1_9 (by decide +kernel)
theorem dX11_word_1 : decode cX11_word 1 = .ok (.iload_n 0, 1) := dc1_26 (by decide +kernel)
theorem dX11_word_2 : decode cX11_word 2 = .ok (.invokestatic 159, 3) := dcw_184 (by decide +kernel)
theorem dX11_word_5 : decode cX11_word 5 = .ok (.iload_n 1, 1) := dc1_27 (by decide +kernel)
theorem dX11_word_6 : decode cX11_word 6 = .ok (.invokestatic 159, 3) := dcw_184 (by decide +kernel)
theorem dX11_word_9 : decode cX11_word 9 = .ok (.iload_n 2, 1) := dc1_28 (by decide +kernel)
theorem dX11_word_10 : decode cX11_word 10 = .ok (.invokestatic 159, 3) := dcw_184 (by decide +kernel)
theorem dX11_word_13 : decode cX11_word 13 = .ok (.iload_n 3, 1) := dc1_29 (by decide +kernel)
theorem dX11_word_14 : decode cX11_word 14 = .ok (.invokestatic 159, 3) := dcw_184 (by decide +kernel)
theorem dX11_word_17 : decode cX11_word 17 = .ok (.iload 4, 2) := dcu_21 (by decide +kernel)
theorem dX11_word_19 : decode cX11_word 19 = .ok (.invokestatic 159, 3) := dcw_184 (by decide +kernel)
theorem dX11_word_22 : decode cX11_word 22 = .ok (.iload 5, 2) := dcu_21 (by decide +kernel)
theorem dX11_word_24 : decode cX11_word 24 = .ok (.invokestatic 159, 3) := dcw_184 (by decide +kernel)
theorem dX11_word_27 : decode cX11_word 27 = .ok (.iload 6, 2) := dcu_21 (by decide +kernel)
theorem dX11_word_29 : decode cX11_word 29 = .ok (.invokestatic 159, 3) := dcw_184 (by decide +kernel)
theorem dX11_word_32 : decode cX11_word 32 = .ok (.lreturn, 1) := dc1_173 (by decide +kernel)
theorem dX11_token_0 : decode cX11_token 0 = .ok (.aload_n 0, 1) := dc1_42 (by decide +kernel)
theorem dX11_token_1 : decode cX11_token 1 = .ok (.getfield 20, 3) := dcw_180 (by decide +kernel)
theorem dX11_token_4 : decode cX11_token 4 = .ok (.aload_n 0, 1) := dc1_42 (by decide +kernel)
theorem dX11_token_5 : decode cX11_token 5 = .ok (.getfield 163, 3) := dcw_180 (by decide +kernel)
theorem dX11_token_8 : decode cX11_token 8 = .ok (.iload_n 1, 1) := dc1_27 (by decide +kernel)
theorem dX11_token_9 : decode cX11_token 9 = .ok (.iastore, 1) := dc1_79 (by decide +kernel)
theorem dX11_token_10 : decode cX11_token 10 = .ok (.aload_n 0, 1) := dc1_42 (by decide +kernel)
theorem dX11_token_11 : decode cX11_token 11 = .ok (.getfield 24, 3) := dcw_180 (by decide +kernel)
theorem dX11_token_14 : decode cX11_token 14 = .ok (.aload_n 0, 1) := dc1_42 (by decide +kernel)
theorem dX11_token_15 : decode cX11_token 15 = .ok (.getfield 163, 3) := dcw_180 (by decide +kernel)
theorem dX11_token_18 : decode cX11_token 18 = .ok (.iload_n 2, 1) := dc1_28 (by decide +kernel)
theorem dX11_token_19 : decode cX11_token 19 = .ok (.iastore, 1) := dc1_79 (by decide +kernel)
theorem dX11_token_20 : decode cX11_token 20 = .ok (.aload_n 0, 1) := dc1_42 (by decide +kernel)
theorem dX11_token_21 : decode cX11_token 21 = .ok (.getfield 27, 3) := dcw_180 (by decide +kernel)
theorem dX11_token_24 : decode cX11_token 24 = .ok (.aload_n 0, 1) := dc1_42 (by decide +kernel)
theorem dX11_token_25 : decode cX11_token 25 = .ok (.getfield 163, 3) := dcw_180 (by decide +kernel)
theorem dX11_token_28 : decode cX11_token 28 = .ok (.iload_n 3, 1) := dc1_29 (by decide +kernel)
theorem dX11_token_29 : decode cX11_token 29 = .ok (.iastore, 1) := dc1_79 (by decide +kernel)
theorem dX11_token_30 : decode cX11_token 30 = .ok (.aload_n 0, 1) := dc1_42 (by decide +kernel)
theorem dX11_token_31 : decode cX11_token 31 = .ok (.getfield 30, 3) := dcw_180 (by decide +kernel)
theorem dX11_token_34 : decode cX11_token 34 = .ok (.aload_n 0, 1) := dc1_42 (by decide +kernel)
theorem dX11_token_35 : decode cX11_token 35 = .ok (.getfield 163, 3) := dcw_180 (by decide +kernel)
theorem dX11_token_38 : decode cX11_token 38 = .ok (.lload 4, 2) := dcu_22 (by decide +kernel)
theorem dX11_token_40 : decode cX11_token 40 = .ok (.lastore, 1) := dc1_80 (by decide +kernel)
theorem dX11_token_41 : decode cX11_token 41 = .ok (.aload_n 0, 1) := dc1_42 (by decide +kernel)
theorem dX11_token_42 : decode cX11_token 42 = .ok (.dup, 1) := dc1_89 (by decide +kernel)
theorem dX11_token_43 : decode cX11_token 43 = .ok (.getfield 163, 3) := dcw_180 (by decide +kernel)
theorem dX11_token_46 : decode cX11_token 46 = .ok (.iconst 1, 1) := dc1_4 (by decide +kernel)
theorem dX11_token_47 : decode cX11_token 47 = .ok (.iadd, 1) := dc1_96 (by decide +kernel)
theorem dX11_token_48 : decode cX11_token 48 = .ok (.putfield 163, 3) := dcw_181 (by decide +kernel)
theorem dX11_token_51 : decode cX11_token 51 = .ok (.return_, 1) := dc1_177 (by decide +kernel)
theorem ggX11_cut_X11_byteAt : GoodIn wsX11_cut wsX11_byteAt := gi_sub (fun w h => List.mem_cons_of_mem _ (List.mem_append_left _ (List.mem_append_right _ (List.mem_append_left _ h)))) gd_wsX11_byteAt
set_option maxRecDepth 20000 in
theorem gX11_cut_X11_byteAt : GoodIn wsX11_cut (wsV RX11 166 RX11 yX11_byteAt wsX11_byteAt) := goodIn_app (goodIn_r _ [4, 5, 6, 7] (by decide +kernel) (by decide +kernel)) ggX11_cut_X11_byteAt
theorem ggX11_cut_X11_token : GoodIn wsX11_cut wsX11_token := gi_sub (fun w h => List.mem_cons_of_mem _ (List.mem_append_left _ (List.mem_append_right _ (List.mem_append_right _ (List.mem_append_left _ h))))) gd_wsX11_token
set_option maxRecDepth 20000 in
theorem gX11_cut_X11_token : GoodIn wsX11_cut (wsV RX11 170 RX11 yX11_token wsX11_token) := goodIn_app (goodIn_r _ [8, 9, 10, 7] (by decide +kernel) (by decide +kernel)) ggX11_cut_X11_token
theorem ggX11_cut_X11_isLetter : GoodIn wsX11_cut wsX11_isLetter := gi_sub (fun w h => List.mem_cons_of_mem _ (List.mem_append_left _ (List.mem_append_right _ (List.mem_append_right _ (List.mem_append_right _ (List.mem_append_left _ h)))))) gd_wsX11_isLetter
set_option maxRecDepth 20000 in
theorem gX11_cut_X11_isLetter : GoodIn wsX11_cut (va_wsS RX11 174 yX11_isLetter wsX11_isLetter) := goodIn_app (goodIn_of _ (by decide +kernel)) ggX11_cut_X11_isLetter
theorem ggX11_cut_X11_appends : GoodIn wsX11_cut wsX11_appends := gi_sub (fun w h => List.mem_cons_of_mem _ (List.mem_append_left _ (List.mem_append_right _ (List.mem_append_right _ (List.mem_append_right _ (List.mem_append_right _ (List.mem_append_left _ h))))))) gd_wsX11_appends
set_option maxRecDepth 20000 in
theorem gX11_cut_X11_appends : GoodIn wsX11_cut (va_wsS RX11 159 yX11_appends wsX11_appends) := goodIn_app (goodIn_of _ (by decide +kernel)) ggX11_cut_X11_appends
theorem ggX11_cut_X11_isDigit : GoodIn wsX11_cut wsX11_isDigit := gi_sub (fun w h => List.mem_cons_of_mem _ (List.mem_append_left _ (List.mem_append_right _ (List.mem_append_right _ (List.mem_append_right _ (List.mem_append_right _ (List.mem_append_right _ (List.mem_append_left _ h)))))))) gd_wsX11_isDigit
set_option maxRecDepth 20000 in
theorem gX11_cut_X11_isDigit : GoodIn wsX11_cut (va_wsS RX11 178 yX11_isDigit wsX11_isDigit) := goodIn_app (goodIn_of _ (by decide +kernel)) ggX11_cut_X11_isDigit
theorem ggX11_cut_X11_sign : GoodIn wsX11_cut wsX11_sign := gi_sub (fun w h => List.mem_cons_of_mem _ (List.mem_append_left _ (List.mem_append_right _ (List.mem_append_right _ (List.mem_append_right _ (List.mem_append_right _ (List.mem_append_right _ (List.mem_append_right _ h)))))))) gd_wsX11_sign
set_option maxRecDepth 20000 in
theorem gX11_cut_X11_sign : GoodIn wsX11_cut (wsV RX11 181 RX11 yX11_sign wsX11_sign) := goodIn_app (goodIn_r _ [17, 18, 19, 7] (by decide +kernel) (by decide +kernel)) ggX11_cut_X11_sign
theorem dX11_cut_0 : decode cX11_cut 0 = .ok (.aload_n 0, 1) := dc1_42 (by decide +kernel)
theorem dX11_cut_1 : decode cX11_cut 1 = .ok (.iconst 0, 1) := dc1_3 (by decide +kernel)
theorem dX11_cut_2 : decode cX11_cut 2 = .ok (.putfield 163, 3) := dcw_181 (by decide +kernel)
theorem dX11_cut_5 : decode cX11_cut 5 = .ok (.iconst 0, 1) := dc1_3 (by decide +kernel)
theorem dX11_cut_6 : decode cX11_cut 6 = .ok (.istore_n 1, 1) := dc1_60 (by decide +kernel)
theorem dX11_cut_7 : decode cX11_cut 7 = .ok (.aload_n 0, 1) := dc1_42 (by decide +kernel)
theorem dX11_cut_8 : decode cX11_cut 8 = .ok (.getfield 163, 3) := dcw_180 (by decide +kernel)
theorem dX11_cut_11 : decode cX11_cut 11 = .ok (.sipush 400, 3) := dcs_17 (n := 400) (by decide +kernel)
theorem dX11_cut_14 : decode cX11_cut 14 = .ok (.if_icmp .gt 280, 3) := dcs_163 (n := 280) (by decide +kernel)
theorem dX11_cut_17 : decode cX11_cut 17 = .ok (.aload_n 0, 1) := dc1_42 (by decide +kernel)
theorem dX11_cut_18 : decode cX11_cut 18 = .ok (.iload_n 1, 1) := dc1_27 (by decide +kernel)
theorem dX11_cut_19 : decode cX11_cut 19 = .ok (.invokevirtual 166, 3) := dcw_182 (by decide +kernel)
theorem dX11_cut_22 : decode cX11_cut 22 = .ok (.istore_n 2, 1) := dc1_61 (by decide +kernel)
theorem dX11_cut_23 : decode cX11_cut 23 = .ok (.iload_n 1, 1) := dc1_27 (by decide +kernel)
theorem dX11_cut_24 : decode cX11_cut 24 = .ok (.aload_n 0, 1) := dc1_42 (by decide +kernel)
theorem dX11_cut_25 : decode cX11_cut 25 = .ok (.getfield 154, 3) := dcw_180 (by decide +kernel)
theorem dX11_cut_28 : decode cX11_cut 28 = .ok (.if_icmp .lt 15, 3) := dcs_161 (n := 15) (by decide +kernel)
theorem dX11_cut_31 : decode cX11_cut 31 = .ok (.aload_n 0, 1) := dc1_42 (by decide +kernel)
theorem dX11_cut_32 : decode cX11_cut 32 = .ok (.iconst 0, 1) := dc1_3 (by decide +kernel)
theorem dX11_cut_33 : decode cX11_cut 33 = .ok (.aload_n 0, 1) := dc1_42 (by decide +kernel)
theorem dX11_cut_34 : decode cX11_cut 34 = .ok (.getfield 154, 3) := dcw_180 (by decide +kernel)
theorem dX11_cut_37 : decode cX11_cut 37 = .ok (.iconst 0, 1) := dc1_3 (by decide +kernel)
theorem dX11_cut_38 : decode cX11_cut 38 = .ok (.lconst 0, 1) := dc1_9 (by decide +kernel)
theorem dX11_cut_39 : decode cX11_cut 39 = .ok (.invokevirtual 170, 3) := dcw_182 (by decide +kernel)
theorem dX11_cut_42 : decode cX11_cut 42 = .ok (.return_, 1) := dc1_177 (by decide +kernel)
theorem dX11_cut_43 : decode cX11_cut 43 = .ok (.iload_n 2, 1) := dc1_28 (by decide +kernel)
theorem dX11_cut_44 : decode cX11_cut 44 = .ok (.bipush 9, 2) := dcb_16 (n := 9) (by decide +kernel)
theorem dX11_cut_46 : decode cX11_cut 46 = .ok (.if_icmp .eq 21, 3) := dcs_159 (n := 21) (by decide +kernel)
theorem dX11_cut_49 : decode cX11_cut 49 = .ok (.iload_n 2, 1) := dc1_28 (by decide +kernel)
theorem dX11_cut_50 : decode cX11_cut 50 = .ok (.bipush 10, 2) := dcb_16 (n := 10) (by decide +kernel)
theorem dX11_cut_52 : decode cX11_cut 52 = .ok (.if_icmp .eq 15, 3) := dcs_159 (n := 15) (by decide +kernel)
theorem dX11_cut_55 : decode cX11_cut 55 = .ok (.iload_n 2, 1) := dc1_28 (by decide +kernel)
theorem dX11_cut_56 : decode cX11_cut 56 = .ok (.bipush 13, 2) := dcb_16 (n := 13) (by decide +kernel)
theorem dX11_cut_58 : decode cX11_cut 58 = .ok (.if_icmp .eq 9, 3) := dcs_159 (n := 9) (by decide +kernel)
theorem dX11_cut_61 : decode cX11_cut 61 = .ok (.iload_n 2, 1) := dc1_28 (by decide +kernel)
theorem dX11_cut_62 : decode cX11_cut 62 = .ok (.bipush 32, 2) := dcb_16 (n := 32) (by decide +kernel)
theorem dX11_cut_64 : decode cX11_cut 64 = .ok (.if_icmp .ne 9, 3) := dcs_160 (n := 9) (by decide +kernel)
theorem dX11_cut_67 : decode cX11_cut 67 = .ok (.iinc 1 1, 3) := dc_iinc (m := 1) (by decide +kernel)
theorem dX11_cut_70 : decode cX11_cut 70 = .ok (.goto 221, 3) := dcs_167 (n := 221) (by decide +kernel)
theorem dX11_cut_73 : decode cX11_cut 73 = .ok (.iload_n 2, 1) := dc1_28 (by decide +kernel)
theorem dX11_cut_74 : decode cX11_cut 74 = .ok (.invokestatic 174, 3) := dcw_184 (by decide +kernel)
theorem dX11_cut_77 : decode cX11_cut 77 = .ok (.ifCond .eq 119, 3) := dcs_153 (n := 119) (by decide +kernel)
theorem dX11_cut_80 : decode cX11_cut 80 = .ok (.iconst 0, 1) := dc1_3 (by decide +kernel)
theorem dX11_cut_81 : decode cX11_cut 81 = .ok (.istore_n 3, 1) := dc1_62 (by decide +kernel)
theorem dX11_cut_82 : decode cX11_cut 82 = .ok (.lconst 0, 1) := dc1_9 (by decide +kernel)
theorem dX11_cut_83 : decode cX11_cut 83 = .ok (.lstore 4, 2) := dcu_55 (by decide +kernel)
theorem dX11_cut_85 : decode cX11_cut 85 = .ok (.aload_n 0, 1) := dc1_42 (by decide +kernel)
theorem dX11_cut_86 : decode cX11_cut 86 = .ok (.iload_n 1, 1) := dc1_27 (by decide +kernel)
theorem dX11_cut_87 : decode cX11_cut 87 = .ok (.iload_n 3, 1) := dc1_29 (by decide +kernel)
theorem dX11_cut_88 : decode cX11_cut 88 = .ok (.iadd, 1) := dc1_96 (by decide +kernel)
theorem dX11_cut_89 : decode cX11_cut 89 = .ok (.invokevirtual 166, 3) := dcw_182 (by decide +kernel)
theorem dX11_cut_92 : decode cX11_cut 92 = .ok (.invokestatic 174, 3) := dcw_184 (by decide +kernel)
theorem dX11_cut_95 : decode cX11_cut 95 = .ok (.ifCond .eq 29, 3) := dcs_153 (n := 29) (by decide +kernel)
theorem dX11_cut_98 : decode cX11_cut 98 = .ok (.iload_n 3, 1) := dc1_29 (by decide +kernel)
theorem dX11_cut_99 : decode cX11_cut 99 = .ok (.bipush 8, 2) := dcb_16 (n := 8) (by decide +kernel)
theorem dX11_cut_101 : decode cX11_cut 101 = .ok (.if_icmp .ge 17, 3) := dcs_162 (n := 17) (by decide +kernel)
theorem dX11_cut_104 : decode cX11_cut 104 = .ok (.lload 4, 2) := dcu_22 (by decide +kernel)
theorem dX11_cut_106 : decode cX11_cut 106 = .ok (.aload_n 0, 1) := dc1_42 (by decide +kernel)
theorem dX11_cut_107 : decode cX11_cut 107 = .ok (.iload_n 1, 1) := dc1_27 (by decide +kernel)
theorem dX11_cut_108 : decode cX11_cut 108 = .ok (.iload_n 3, 1) := dc1_29 (by decide +kernel)
theorem dX11_cut_109 : decode cX11_cut 109 = .ok (.iadd, 1) := dc1_96 (by decide +kernel)
theorem dX11_cut_110 : decode cX11_cut 110 = .ok (.invokevirtual 166, 3) := dcw_182 (by decide +kernel)
theorem dX11_cut_113 : decode cX11_cut 113 = .ok (.invokestatic 159, 3) := dcw_184 (by decide +kernel)
theorem dX11_cut_116 : decode cX11_cut 116 = .ok (.lstore 4, 2) := dcu_55 (by decide +kernel)
theorem dX11_cut_118 : decode cX11_cut 118 = .ok (.iinc 3 1, 3) := dc_iinc (m := 1) (by decide +kernel)
theorem dX11_cut_121 : decode cX11_cut 121 = .ok (.goto (-36), 3) := dcs_167 (n := 65500) (by decide +kernel)
theorem dX11_cut_124 : decode cX11_cut 124 = .ok (.iload_n 3, 1) := dc1_29 (by decide +kernel)
theorem dX11_cut_125 : decode cX11_cut 125 = .ok (.bipush 8, 2) := dcb_16 (n := 8) (by decide +kernel)
theorem dX11_cut_127 : decode cX11_cut 127 = .ok (.if_icmp .le 7, 3) := dcs_164 (n := 7) (by decide +kernel)
theorem dX11_cut_130 : decode cX11_cut 130 = .ok (.iconst 3, 1) := dc1_6 (by decide +kernel)
theorem dX11_cut_131 : decode cX11_cut 131 = .ok (.goto 4, 3) := dcs_167 (n := 4) (by decide +kernel)
theorem dX11_cut_134 : decode cX11_cut 134 = .ok (.iconst 1, 1) := dc1_4 (by decide +kernel)
theorem dX11_cut_135 : decode cX11_cut 135 = .ok (.istore 6, 2) := dcu_54 (by decide +kernel)
theorem dX11_cut_137 : decode cX11_cut 137 = .ok (.iload_n 3, 1) := dc1_29 (by decide +kernel)
theorem dX11_cut_138 : decode cX11_cut 138 = .ok (.bipush 8, 2) := dcb_16 (n := 8) (by decide +kernel)
theorem dX11_cut_140 : decode cX11_cut 140 = .ok (.if_icmp .gt 39, 3) := dcs_163 (n := 39) (by decide +kernel)
theorem dX11_cut_143 : decode cX11_cut 143 = .ok (.iconst 0, 1) := dc1_3 (by decide +kernel)
theorem dX11_cut_144 : decode cX11_cut 144 = .ok (.istore 7, 2) := dcu_54 (by decide +kernel)
theorem dX11_cut_146 : decode cX11_cut 146 = .ok (.iload 7, 2) := dcu_21 (by decide +kernel)
theorem dX11_cut_148 : decode cX11_cut 148 = .ok (.bipush 19, 2) := dcb_16 (n := 19) (by decide +kernel)
theorem dX11_cut_150 : decode cX11_cut 150 = .ok (.if_icmp .ge 29, 3) := dcs_162 (n := 29) (by decide +kernel)
theorem dX11_cut_153 : decode cX11_cut 153 = .ok (.aload_n 0, 1) := dc1_42 (by decide +kernel)
theorem dX11_cut_154 : decode cX11_cut 154 = .ok (.getfield 34, 3) := dcw_180 (by decide +kernel)
theorem dX11_cut_157 : decode cX11_cut 157 = .ok (.iload 7, 2) := dcu_21 (by decide +kernel)
theorem dX11_cut_159 : decode cX11_cut 159 = .ok (.laload, 1) := dc1_47 (by decide +kernel)
theorem dX11_cut_160 : decode cX11_cut 160 = .ok (.lload 4, 2) := dcu_22 (by decide +kernel)
theorem dX11_cut_162 : decode cX11_cut 162 = .ok (.lcmp, 1) := dc1_148 (by decide +kernel)
theorem dX11_cut_163 : decode cX11_cut 163 = .ok (.ifCond .ne 10, 3) := dcs_154 (n := 10) (by decide +kernel)
theorem dX11_cut_166 : decode cX11_cut 166 = .ok (.bipush 20, 2) := dcb_16 (n := 20) (by decide +kernel)
theorem dX11_cut_168 : decode cX11_cut 168 = .ok (.iload 7, 2) := dcu_21 (by decide +kernel)
theorem dX11_cut_170 : decode cX11_cut 170 = .ok (.iadd, 1) := dc1_96 (by decide +kernel)
theorem dX11_cut_171 : decode cX11_cut 171 = .ok (.istore 6, 2) := dcu_54 (by decide +kernel)
theorem dX11_cut_173 : decode cX11_cut 173 = .ok (.iinc 7 1, 3) := dc_iinc (m := 1) (by decide +kernel)
theorem dX11_cut_176 : decode cX11_cut 176 = .ok (.goto (-30), 3) := dcs_167 (n := 65506) (by decide +kernel)
theorem dX11_cut_179 : decode cX11_cut 179 = .ok (.aload_n 0, 1) := dc1_42 (by decide +kernel)
theorem dX11_cut_180 : decode cX11_cut 180 = .ok (.iload 6, 2) := dcu_21 (by decide +kernel)
theorem dX11_cut_182 : decode cX11_cut 182 = .ok (.iload_n 1, 1) := dc1_27 (by decide +kernel)
theorem dX11_cut_183 : decode cX11_cut 183 = .ok (.iconst 0, 1) := dc1_3 (by decide +kernel)
theorem dX11_cut_184 : decode cX11_cut 184 = .ok (.lload 4, 2) := dcu_22 (by decide +kernel)
theorem dX11_cut_186 : decode cX11_cut 186 = .ok (.invokevirtual 170, 3) := dcw_182 (by decide +kernel)
theorem dX11_cut_189 : decode cX11_cut 189 = .ok (.iload_n 1, 1) := dc1_27 (by decide +kernel)
theorem dX11_cut_190 : decode cX11_cut 190 = .ok (.iload_n 3, 1) := dc1_29 (by decide +kernel)
theorem dX11_cut_191 : decode cX11_cut 191 = .ok (.iadd, 1) := dc1_96 (by decide +kernel)
theorem dX11_cut_192 : decode cX11_cut 192 = .ok (.istore_n 1, 1) := dc1_60 (by decide +kernel)
theorem dX11_cut_193 : decode cX11_cut 193 = .ok (.goto 98, 3) := dcs_167 (n := 98) (by decide +kernel)
theorem dX11_cut_196 : decode cX11_cut 196 = .ok (.iload_n 2, 1) := dc1_28 (by decide +kernel)
theorem dX11_cut_197 : decode cX11_cut 197 = .ok (.invokestatic 178, 3) := dcw_184 (by decide +kernel)
theorem dX11_cut_200 : decode cX11_cut 200 = .ok (.ifCond .eq 75, 3) := dcs_153 (n := 75) (by decide +kernel)
theorem dX11_cut_203 : decode cX11_cut 203 = .ok (.iconst 0, 1) := dc1_3 (by decide +kernel)
theorem dX11_cut_204 : decode cX11_cut 204 = .ok (.istore_n 3, 1) := dc1_62 (by decide +kernel)
theorem dX11_cut_205 : decode cX11_cut 205 = .ok (.iconst 0, 1) := dc1_3 (by decide +kernel)
theorem dX11_cut_206 : decode cX11_cut 206 = .ok (.istore 4, 2) := dcu_54 (by decide +kernel)
theorem dX11_cut_208 : decode cX11_cut 208 = .ok (.aload_n 0, 1) := dc1_42 (by decide +kernel)
theorem dX11_cut_209 : decode cX11_cut 209 = .ok (.iload_n 1, 1) := dc1_27 (by decide +kernel)
theorem dX11_cut_210 : decode cX11_cut 210 = .ok (.iload_n 3, 1) := dc1_29 (by decide +kernel)
theorem dX11_cut_211 : decode cX11_cut 211 = .ok (.iadd, 1) := dc1_96 (by decide +kernel)
theorem dX11_cut_212 : decode cX11_cut 212 = .ok (.invokevirtual 166, 3) := dcw_182 (by decide +kernel)
theorem dX11_cut_215 : decode cX11_cut 215 = .ok (.invokestatic 178, 3) := dcw_184 (by decide +kernel)
theorem dX11_cut_218 : decode cX11_cut 218 = .ok (.ifCond .eq 32, 3) := dcs_153 (n := 32) (by decide +kernel)
theorem dX11_cut_221 : decode cX11_cut 221 = .ok (.iload_n 3, 1) := dc1_29 (by decide +kernel)
theorem dX11_cut_222 : decode cX11_cut 222 = .ok (.iconst 4, 1) := dc1_7 (by decide +kernel)
theorem dX11_cut_223 : decode cX11_cut 223 = .ok (.if_icmp .ge 21, 3) := dcs_162 (n := 21) (by decide +kernel)
theorem dX11_cut_226 : decode cX11_cut 226 = .ok (.bipush 10, 2) := dcb_16 (n := 10) (by decide +kernel)
theorem dX11_cut_228 : decode cX11_cut 228 = .ok (.iload 4, 2) := dcu_21 (by decide +kernel)
theorem dX11_cut_230 : decode cX11_cut 230 = .ok (.imul, 1) := dc1_104 (by decide +kernel)
theorem dX11_cut_231 : decode cX11_cut 231 = .ok (.aload_n 0, 1) := dc1_42 (by decide +kernel)
theorem dX11_cut_232 : decode cX11_cut 232 = .ok (.iload_n 1, 1) := dc1_27 (by decide +kernel)
theorem dX11_cut_233 : decode cX11_cut 233 = .ok (.iload_n 3, 1) := dc1_29 (by decide +kernel)
theorem dX11_cut_234 : decode cX11_cut 234 = .ok (.iadd, 1) := dc1_96 (by decide +kernel)
theorem dX11_cut_235 : decode cX11_cut 235 = .ok (.invokevirtual 166, 3) := dcw_182 (by decide +kernel)
theorem dX11_cut_238 : decode cX11_cut 238 = .ok (.iadd, 1) := dc1_96 (by decide +kernel)
theorem dX11_cut_239 : decode cX11_cut 239 = .ok (.bipush 48, 2) := dcb_16 (n := 48) (by decide +kernel)
theorem dX11_cut_241 : decode cX11_cut 241 = .ok (.isub, 1) := dc1_100 (by decide +kernel)
theorem dX11_cut_242 : decode cX11_cut 242 = .ok (.istore 4, 2) := dcu_54 (by decide +kernel)
theorem dX11_cut_244 : decode cX11_cut 244 = .ok (.iinc 3 1, 3) := dc_iinc (m := 1) (by decide +kernel)
theorem dX11_cut_247 : decode cX11_cut 247 = .ok (.goto (-39), 3) := dcs_167 (n := 65497) (by decide +kernel)
theorem dX11_cut_250 : decode cX11_cut 250 = .ok (.aload_n 0, 1) := dc1_42 (by decide +kernel)
theorem dX11_cut_251 : decode cX11_cut 251 = .ok (.iload_n 3, 1) := dc1_29 (by decide +kernel)
theorem dX11_cut_252 : decode cX11_cut 252 = .ok (.iconst 4, 1) := dc1_7 (by decide +kernel)
theorem dX11_cut_253 : decode cX11_cut 253 = .ok (.if_icmp .le 7, 3) := dcs_164 (n := 7) (by decide +kernel)
theorem dX11_cut_256 : decode cX11_cut 256 = .ok (.iconst 3, 1) := dc1_6 (by decide +kernel)
theorem dX11_cut_257 : decode cX11_cut 257 = .ok (.goto 4, 3) := dcs_167 (n := 4) (by decide +kernel)
theorem dX11_cut_260 : decode cX11_cut 260 = .ok (.iconst 2, 1) := dc1_5 (by decide +kernel)
theorem dX11_cut_261 : decode cX11_cut 261 = .ok (.iload_n 1, 1) := dc1_27 (by decide +kernel)
theorem dX11_cut_262 : decode cX11_cut 262 = .ok (.iload 4, 2) := dcu_21 (by decide +kernel)
theorem dX11_cut_264 : decode cX11_cut 264 = .ok (.lconst 0, 1) := dc1_9 (by decide +kernel)
theorem dX11_cut_265 : decode cX11_cut 265 = .ok (.invokevirtual 170, 3) := dcw_182 (by decide +kernel)
theorem dX11_cut_268 : decode cX11_cut 268 = .ok (.iload_n 1, 1) := dc1_27 (by decide +kernel)
theorem dX11_cut_269 : decode cX11_cut 269 = .ok (.iload_n 3, 1) := dc1_29 (by decide +kernel)
theorem dX11_cut_270 : decode cX11_cut 270 = .ok (.iadd, 1) := dc1_96 (by decide +kernel)
theorem dX11_cut_271 : decode cX11_cut 271 = .ok (.istore_n 1, 1) := dc1_60 (by decide +kernel)
theorem dX11_cut_272 : decode cX11_cut 272 = .ok (.goto 19, 3) := dcs_167 (n := 19) (by decide +kernel)
theorem dX11_cut_275 : decode cX11_cut 275 = .ok (.iload_n 1, 1) := dc1_27 (by decide +kernel)
theorem dX11_cut_276 : decode cX11_cut 276 = .ok (.aload_n 0, 1) := dc1_42 (by decide +kernel)
theorem dX11_cut_277 : decode cX11_cut 277 = .ok (.iload_n 1, 1) := dc1_27 (by decide +kernel)
theorem dX11_cut_278 : decode cX11_cut 278 = .ok (.iload_n 2, 1) := dc1_28 (by decide +kernel)
theorem dX11_cut_279 : decode cX11_cut 279 = .ok (.aload_n 0, 1) := dc1_42 (by decide +kernel)
theorem dX11_cut_280 : decode cX11_cut 280 = .ok (.iload_n 1, 1) := dc1_27 (by decide +kernel)
theorem dX11_cut_281 : decode cX11_cut 281 = .ok (.iconst 1, 1) := dc1_4 (by decide +kernel)
theorem dX11_cut_282 : decode cX11_cut 282 = .ok (.iadd, 1) := dc1_96 (by decide +kernel)
theorem dX11_cut_283 : decode cX11_cut 283 = .ok (.invokevirtual 166, 3) := dcw_182 (by decide +kernel)
theorem dX11_cut_286 : decode cX11_cut 286 = .ok (.invokevirtual 181, 3) := dcw_182 (by decide +kernel)
theorem dX11_cut_289 : decode cX11_cut 289 = .ok (.iadd, 1) := dc1_96 (by decide +kernel)
theorem dX11_cut_290 : decode cX11_cut 290 = .ok (.istore_n 1, 1) := dc1_60 (by decide +kernel)
theorem dX11_cut_291 : decode cX11_cut 291 = .ok (.goto (-284), 3) := dcs_167 (n := 65252) (by decide +kernel)
theorem dX11_cut_294 : decode cX11_cut 294 = .ok (.return_, 1) := dc1_177 (by decide +kernel)
theorem ggX11_sign_X11_token : GoodIn wsX11_sign wsX11_token := gi_sub (fun w h => List.mem_cons_of_mem _ (List.mem_append_left _ (List.mem_append_right _ h))) gd_wsX11_token
set_option maxRecDepth 20000 in
theorem gX11_sign_X11_token : GoodIn wsX11_sign (wsV RX11 170 RX11 yX11_token wsX11_token) := goodIn_app (goodIn_r _ [1, 2, 3, 4] (by decide +kernel) (by decide +kernel)) ggX11_sign_X11_token
theorem dX11_sign_0 : decode cX11_sign 0 = .ok (.iload_n 2, 1) := dc1_28 (by decide +kernel)
theorem dX11_sign_1 : decode cX11_sign 1 = .ok (.bipush 59, 2) := dcb_16 (n := 59) (by decide +kernel)
theorem dX11_sign_3 : decode cX11_sign 3 = .ok (.if_icmp .ne 7, 3) := dcs_160 (n := 7) (by decide +kernel)
theorem dX11_sign_6 : decode cX11_sign 6 = .ok (.iconst 4, 1) := dc1_7 (by decide +kernel)
theorem dX11_sign_7 : decode cX11_sign 7 = .ok (.goto 36, 3) := dcs_167 (n := 36) (by decide +kernel)
theorem dX11_sign_10 : decode cX11_sign 10 = .ok (.iload_n 2, 1) := dc1_28 (by decide +kernel)
theorem dX11_sign_11 : decode cX11_sign 11 = .ok (.bipush 61, 2) := dcb_16 (n := 61) (by decide +kernel)
theorem dX11_sign_13 : decode cX11_sign 13 = .ok (.if_icmp .ne 7, 3) := dcs_160 (n := 7) (by decide +kernel)
theorem dX11_sign_16 : decode cX11_sign 16 = .ok (.iconst 5, 1) := dc1_8 (by decide +kernel)
theorem dX11_sign_17 : decode cX11_sign 17 = .ok (.goto 26, 3) := dcs_167 (n := 26) (by decide +kernel)
theorem dX11_sign_20 : decode cX11_sign 20 = .ok (.iload_n 2, 1) := dc1_28 (by decide +kernel)
theorem dX11_sign_21 : decode cX11_sign 21 = .ok (.bipush 40, 2) := dcb_16 (n := 40) (by decide +kernel)
theorem dX11_sign_23 : decode cX11_sign 23 = .ok (.if_icmp .ne 8, 3) := dcs_160 (n := 8) (by decide +kernel)
theorem dX11_sign_26 : decode cX11_sign 26 = .ok (.bipush 6, 2) := dcb_16 (n := 6) (by decide +kernel)
theorem dX11_sign_28 : decode cX11_sign 28 = .ok (.goto 15, 3) := dcs_167 (n := 15) (by decide +kernel)
theorem dX11_sign_31 : decode cX11_sign 31 = .ok (.iload_n 2, 1) := dc1_28 (by decide +kernel)
theorem dX11_sign_32 : decode cX11_sign 32 = .ok (.bipush 41, 2) := dcb_16 (n := 41) (by decide +kernel)
theorem dX11_sign_34 : decode cX11_sign 34 = .ok (.if_icmp .ne 8, 3) := dcs_160 (n := 8) (by decide +kernel)
theorem dX11_sign_37 : decode cX11_sign 37 = .ok (.bipush 7, 2) := dcb_16 (n := 7) (by decide +kernel)
theorem dX11_sign_39 : decode cX11_sign 39 = .ok (.goto 4, 3) := dcs_167 (n := 4) (by decide +kernel)
theorem dX11_sign_42 : decode cX11_sign 42 = .ok (.iconst 3, 1) := dc1_6 (by decide +kernel)
theorem dX11_sign_43 : decode cX11_sign 43 = .ok (.istore 4, 2) := dcu_54 (by decide +kernel)
theorem dX11_sign_45 : decode cX11_sign 45 = .ok (.iload_n 2, 1) := dc1_28 (by decide +kernel)
theorem dX11_sign_46 : decode cX11_sign 46 = .ok (.bipush 43, 2) := dcb_16 (n := 43) (by decide +kernel)
theorem dX11_sign_48 : decode cX11_sign 48 = .ok (.if_icmp .ne 7, 3) := dcs_160 (n := 7) (by decide +kernel)
theorem dX11_sign_51 : decode cX11_sign 51 = .ok (.bipush 8, 2) := dcb_16 (n := 8) (by decide +kernel)
theorem dX11_sign_53 : decode cX11_sign 53 = .ok (.istore 4, 2) := dcu_54 (by decide +kernel)
theorem dX11_sign_55 : decode cX11_sign 55 = .ok (.iload_n 2, 1) := dc1_28 (by decide +kernel)
theorem dX11_sign_56 : decode cX11_sign 56 = .ok (.bipush 45, 2) := dcb_16 (n := 45) (by decide +kernel)
theorem dX11_sign_58 : decode cX11_sign 58 = .ok (.if_icmp .ne 7, 3) := dcs_160 (n := 7) (by decide +kernel)
theorem dX11_sign_61 : decode cX11_sign 61 = .ok (.bipush 9, 2) := dcb_16 (n := 9) (by decide +kernel)
theorem dX11_sign_63 : decode cX11_sign 63 = .ok (.istore 4, 2) := dcu_54 (by decide +kernel)
theorem dX11_sign_65 : decode cX11_sign 65 = .ok (.iload_n 2, 1) := dc1_28 (by decide +kernel)
theorem dX11_sign_66 : decode cX11_sign 66 = .ok (.bipush 42, 2) := dcb_16 (n := 42) (by decide +kernel)
theorem dX11_sign_68 : decode cX11_sign 68 = .ok (.if_icmp .ne 7, 3) := dcs_160 (n := 7) (by decide +kernel)
theorem dX11_sign_71 : decode cX11_sign 71 = .ok (.bipush 10, 2) := dcb_16 (n := 10) (by decide +kernel)
theorem dX11_sign_73 : decode cX11_sign 73 = .ok (.istore 4, 2) := dcu_54 (by decide +kernel)
theorem dX11_sign_75 : decode cX11_sign 75 = .ok (.iload_n 2, 1) := dc1_28 (by decide +kernel)
theorem dX11_sign_76 : decode cX11_sign 76 = .ok (.bipush 47, 2) := dcb_16 (n := 47) (by decide +kernel)
theorem dX11_sign_78 : decode cX11_sign 78 = .ok (.if_icmp .ne 7, 3) := dcs_160 (n := 7) (by decide +kernel)
theorem dX11_sign_81 : decode cX11_sign 81 = .ok (.bipush 15, 2) := dcb_16 (n := 15) (by decide +kernel)
theorem dX11_sign_83 : decode cX11_sign 83 = .ok (.istore 4, 2) := dcu_54 (by decide +kernel)
theorem dX11_sign_85 : decode cX11_sign 85 = .ok (.iload_n 2, 1) := dc1_28 (by decide +kernel)
theorem dX11_sign_86 : decode cX11_sign 86 = .ok (.bipush 60, 2) := dcb_16 (n := 60) (by decide +kernel)
theorem dX11_sign_88 : decode cX11_sign 88 = .ok (.if_icmp .ne 7, 3) := dcs_160 (n := 7) (by decide +kernel)
theorem dX11_sign_91 : decode cX11_sign 91 = .ok (.bipush 13, 2) := dcb_16 (n := 13) (by decide +kernel)
theorem dX11_sign_93 : decode cX11_sign 93 = .ok (.istore 4, 2) := dcu_54 (by decide +kernel)
theorem dX11_sign_95 : decode cX11_sign 95 = .ok (.aload_n 0, 1) := dc1_42 (by decide +kernel)
theorem dX11_sign_96 : decode cX11_sign 96 = .ok (.iload 4, 2) := dcu_21 (by decide +kernel)
theorem dX11_sign_98 : decode cX11_sign 98 = .ok (.iload_n 1, 1) := dc1_27 (by decide +kernel)
theorem dX11_sign_99 : decode cX11_sign 99 = .ok (.iconst 0, 1) := dc1_3 (by decide +kernel)
theorem dX11_sign_100 : decode cX11_sign 100 = .ok (.lconst 0, 1) := dc1_9 (by decide +kernel)
theorem dX11_sign_101 : decode cX11_sign 101 = .ok (.invokevirtual 170, 3) := dcw_182 (by decide +kernel)
theorem dX11_sign_104 : decode cX11_sign 104 = .ok (.iconst 1, 1) := dc1_4 (by decide +kernel)
theorem dX11_sign_105 : decode cX11_sign 105 = .ok (.ireturn, 1) := dc1_172 (by decide +kernel)
theorem LX11_put_13 : Cond.fieldLink RX11 13 "GuessFerryModel" "tape" "[B" ∈ wsX11_put := (List.mem_cons_of_mem _ (List.mem_append_left _ (List.mem_of_getElem? (i := 0) rfl)))
theorem LX11_put_148 : Cond.fieldLink RX11 148 "GuessFerryModel" "taped" "I" ∈ wsX11_put := (List.mem_cons_of_mem _ (List.mem_append_left _ (List.mem_of_getElem? (i := 1) rfl)))
theorem inX11_put_X11 : ∀ w ∈ u_ws RX11 TX11 58, w ∈ wsX11_put := fun _ h => List.mem_cons_of_mem _ (List.mem_append_right _ h)
set_option maxHeartbeats 4000000 in
set_option maxRecDepth 100000 in
theorem br_put_3 {l : Launch} {dC : Nat → ClassId} {dI : Nat → Nat → Nat} {cB cI cJ cZ cS : ClassId} {h : Nat} {a : Nat → Nat} {as : List Value} {s' : RS} {k3 : RS → Int32 → Int32 → Option RS} (hk3 : ∀ (s : RS) (x1 : Int32) (x2 : Int32), k3 s x1 x2 = some s' → BlkV l yX11_put wsX11_put ({ frames := 0, cells := 0, slots := 0, locals := 0 }) cX11_put 3 none (dC, dI) (tysA cB cI cJ cZ cS) as 3 (mwS cB cI cJ cZ h a s) [(0, .ref h), (1, .int x1), (2, .int x2)] [] (fun u => u = (mwS cB cI cJ cZ h a s'))) (s : RS) (x1 : Int32) (x2 : Int32) (hB : r_put_3 k3 s x1 x2 = some s') : BlkV l yX11_put wsX11_put ({ frames := 0, cells := 0, slots := 0, locals := 0 }) cX11_put 3 none (dC, dI) (tysA cB cI cJ cZ cS) as 3 (mwS cB cI cJ cZ h a s) [(0, .ref h), (1, .int x1), (2, .int x2)] [] (fun u => u = (mwS cB cI cJ cZ h a s')) := by
  intro p e s0 m below meth c A E H locs ls hP hD hS hl
  obtain ⟨C, hr, hlocks, hA, hK, hN⟩ := id E
  obtain ⟨hx, hb, hml, hown, hts⟩ := id C
  unfold r_put_3 at hB
  refine lv_iload_n hx hb dX11_put_3 rfl (lv_at hl 2 rfl) ?_
  refine lv_if_lt (tgt := 36) hx hb dX11_put_4 (by decide) (fun c1 => ?_) (fun c1 => ?_)
  · have hB := if_p hB c1
    exact q_vret C hr hlocks hK hP hD hS (Nat.le_of_ble_eq_true rfl) (Nat.le_of_ble_eq_true rfl) dX11_put_36 (by cases hB; rfl)
  · have hB := if_n hB c1
    refine lv_aload_n hx hb dX11_put_7 rfl (lv_at hl 0 rfl) ?_
    refine q_get (v := .ref (a 1)) C inX11_put_X11 hK hP 0 rfl rfl 1 (by decide) rfl LX11_put_13 rfl dX11_put_8 ?_
    refine lv_aload_n hx hb dX11_put_11 rfl (lv_at hl 0 rfl) ?_
    refine q_get (v := .int (s.v 2)) C inX11_put_X11 hK hP 0 rfl rfl 2 (by decide) rfl LX11_put_148 rfl dX11_put_12 ?_
    refine lv_iload_n hx hb dX11_put_15 rfl (lv_at hl 1 rfl) ?_
    refine lv_iload_n hx hb dX11_put_16 rfl (lv_at hl 2 rfl) ?_
    refine lv_ishr hx hb dX11_put_17 ?_
    refine lv_i2b (v := (Int8.toInt32 (Int32.toInt8 (x1 >>> (x2 &&& 31))))) hx hb dX11_put_18 rfl ?_
    obtain ⟨g2, hB⟩ := guard_inv hB
    obtain ⟨s3, hs4, hB⟩ := letS_inv hB
    refine q_bast (f2 := (upd (s.f 1) (Int32.toNatClampNeg (s.v 2)) (vp_nar .byte (Int8.toInt32 (Int32.toInt8 (x1 >>> (x2 &&& 31))))))) (w2 := (mwS cB cI cJ cZ h a s3)) C hK hP hD hS 1 0 rfl rfl (vpb_in g2) dX11_put_19 rfl (mwS_f1 hs4) (fun H locs hP hD hS => ?_)
    refine lv_aload_n hx hb dX11_put_20 rfl (lv_at hl 0 rfl) ?_
    refine lv_dup hx hb dX11_put_21 rfl ?_
    refine q_get (v := .int (s3.v 2)) C inX11_put_X11 hK hP 0 rfl rfl 2 (by decide) rfl LX11_put_148 rfl dX11_put_22 ?_
    refine lv_iconst (v := 1) hx hb dX11_put_25 (by decide) ?_
    refine lv_iadd hx hb dX11_put_26 ?_
    obtain ⟨s5, hs6, hB⟩ := letS_inv hB
    refine q_put (ty := .int) (w2 := (mwS cB cI cJ cZ h a s5)) tyX11 tyX11_ok nmX11 C inX11_put_X11 hK hP hD hS 0 rfl rfl 2 (by decide) rfl LX11_put_148 rfl (by decide +kernel) (rfl) rfl (Nat.le_of_ble_eq_true rfl) dX11_put_27 (mwS_v2 hs6) (fun H locs hP hD hS => ?_)
    refine lv_iinc (v := (x2 + (-8))) (lv' := [(2, .int (x2 + (-8))), (0, .ref h), (1, .int x1)]) hx hb dX11_put_30 hl (k := 2) rfl (rfl) (by decide) rfl (fun ls hl => ?_)
    refine lv_goto (tgt := 3) hx hb dX11_put_33 (by decide) ?_
    exact hk3 _ _ _ hB p e s0 m below meth c A E H locs ls hP hD hS (lv_sub hl [1, 2, 0] rfl)
theorem br_put_3L {l : Launch} {dC : Nat → ClassId} {dI : Nat → Nat → Nat} {cB cI cJ cZ cS : ClassId} {h : Nat} {a : Nat → Nat} {as : List Value} {s' : RS} : ∀ (n : Nat) (s : RS) (x1 : Int32) (x2 : Int32), r_put_3L n s x1 x2 = some s' → BlkV l yX11_put wsX11_put ({ frames := 0, cells := 0, slots := 0, locals := 0 }) cX11_put 3 none (dC, dI) (tysA cB cI cJ cZ cS) as 3 (mwS cB cI cJ cZ h a s) [(0, .ref h), (1, .int x1), (2, .int x2)] [] (fun u => u = (mwS cB cI cJ cZ h a s')) := by
  intro n
  induction n with
  | zero => intro s x1 x2 hB; exact none_ne hB
  | succ n ih => intro s x1 x2 hB; exact br_put_3 ih _ _ _ hB
set_option maxHeartbeats 4000000 in
set_option maxRecDepth 100000 in
theorem br_put {l : Launch} {dC : Nat → ClassId} {dI : Nat → Nat → Nat} {cB cI cJ cZ cS : ClassId} {h : Nat} {a : Nat → Nat} {as : List Value} {s' : RS} (s : RS) (x1 : Int32) (hB : r_put s x1 = some s') : BlkV l yX11_put wsX11_put ({ frames := 0, cells := 0, slots := 0, locals := 0 }) cX11_put 3 none (dC, dI) (tysA cB cI cJ cZ cS) as 0 (mwS cB cI cJ cZ h a s) [(0, .ref h), (1, .int x1)] [] (fun u => u = (mwS cB cI cJ cZ h a s')) := by
  intro p e s0 m below meth c A E H locs ls hP hD hS hl
  obtain ⟨C, hr, hlocks, hA, hK, hN⟩ := id E
  obtain ⟨hx, hb, hml, hown, hts⟩ := id C
  unfold r_put at hB
  refine lv_bipush (v := 24) hx hb dX11_put_0 (by decide) ?_
  refine lv_istore_n (lv' := [(2, .int 24), (0, .ref h), (1, .int x1)]) hx hb dX11_put_2 rfl hl (by decide) rfl (fun ls hl => ?_)
  exact br_put_3L fu _ _ _ hB p e s0 m below meth c A E H locs ls hP hD hS (lv_sub hl [1, 2, 0] rfl)
theorem cr_put {l : Launch} {dC : Nat → ClassId} {dI : Nat → Nat → Nat} {cB cI cJ cZ cS : ClassId} {h : Nat} {a : Nat → Nat} {s' : RS} {s : RS} {x1 : Int32} (hB : r_put s x1 = some s') : CV l yX11_put wsX11_put ({ frames := 0, cells := 0, slots := 0, locals := 0 }) (dC, dI) (tysA cB cI cJ cZ cS) (mwS cB cI cJ cZ h a s) [.ref h, .int x1] (fun u => u = (mwS cB cI cJ cZ h a s')) :=
  CV_of (cc := cX11_put) (maxL := 3) (ret := none) (by decide) rfl (Nat.le_of_ble_eq_true rfl) (br_put _ _ hB)
theorem LX11_feed_148 : Cond.fieldLink RX11 148 "GuessFerryModel" "taped" "I" ∈ wsX11_feed := (List.mem_cons_of_mem _ (List.mem_append_left _ (List.mem_append_left _ (List.mem_of_getElem? (i := 0) rfl))))
theorem inX11_feed_X11 : ∀ w ∈ u_ws RX11 TX11 58, w ∈ wsX11_feed := fun w h => (List.mem_cons_of_mem _ (List.mem_append_right _ h))
set_option maxHeartbeats 4000000 in
set_option maxRecDepth 100000 in
theorem br_feed {l : Launch} {dC : Nat → ClassId} {dI : Nat → Nat → Nat} {cB cI cJ cZ cS : ClassId} {h : Nat} {a : Nat → Nat} {as : List Value} {r : Int32} {s' : RS} (s : RS) (x1 : Int32) (x2 : Int32) (x3 : Int32) (x4 : Int32) (x5 : Int32) (hB : r_feed s x1 x2 x3 x4 x5 = some (r, s')) : BlkI l yX11_feed wsX11_feed ({ frames := 1, cells := 0, slots := 0, locals := 22 }) cX11_feed 6 (some .int) (dC, dI) (tysA cB cI cJ cZ cS) as 0 (mwS cB cI cJ cZ h a s) [(0, .ref h), (1, .int x1), (2, .int x2), (3, .int x3), (4, .int x4), (5, .int x5)] [] (fun x u => x = r ∧ u = (mwS cB cI cJ cZ h a s')) := by
  intro p e s0 m below meth c A E H locs ls hP hD hS hl
  obtain ⟨C, hr, hlocks, hA, hK, hN⟩ := id E
  obtain ⟨hx, hb, hml, hown, hts⟩ := id C
  unfold r_feed at hB
  refine lv_aload_n hx hb dX11_feed_0 rfl (lv_at hl 0 rfl) ?_
  refine q_get (v := .int (s.v 2)) C inX11_feed_X11 hK hP 0 rfl rfl 2 (by decide) rfl LX11_feed_148 rfl dX11_feed_1 ?_
  refine lv_bipush (v := 20) hx hb dX11_feed_4 (by decide) ?_
  refine lv_iadd hx hb dX11_feed_6 ?_
  refine lv_sipush (v := 2000) hx hb dX11_feed_7 (by decide) ?_
  refine lv_icmp_le (tgt := 15) hx hb dX11_feed_10 (by decide) (fun c1 => ?_) (fun c1 => ?_)
  · have hB := if_p hB c1
    refine lv_aload_n hx hb dX11_feed_15 rfl (lv_at hl 0 rfl) ?_
    refine lv_iload_n hx hb dX11_feed_16 rfl (lv_at hl 1 rfl) ?_
    obtain ⟨s2, hc, hB⟩ := bindP_inv hB
    refine q_govF (va_runV (As := [.int x1]) (rest := []) C (cr_put hc _) (cwV 1 hts gX11_feed_X11_put rfl rfl rfl (by decide +kernel) ⟨Nat.le_of_ble_eq_true rfl, Nat.le_of_ble_eq_true rfl⟩) (q_preV hK hP (ci := 11) (q0 := 0) rfl rfl rfl (q_preF hN hK hP hD)) rfl rfl hl.1 rfl (lv_room (Nat.le_of_ble_eq_true rfl)) dX11_feed_17 ⟨Nat.le_of_ble_eq_true rfl, Nat.le_of_ble_eq_true rfl⟩) hD hS hA (fun w1 H locs hw hP hD hS => ?_)
    subst hw
    refine lv_aload_n hx hb dX11_feed_20 rfl (lv_at hl 0 rfl) ?_
    refine lv_iload_n hx hb dX11_feed_21 rfl (lv_at hl 2 rfl) ?_
    obtain ⟨s3, hc, hB⟩ := bindP_inv hB
    refine q_govF (va_runV (As := [.int x2]) (rest := []) C (cr_put hc _) (cwV 1 hts gX11_feed_X11_put rfl rfl rfl (by decide +kernel) ⟨Nat.le_of_ble_eq_true rfl, Nat.le_of_ble_eq_true rfl⟩) (q_preV hK hP (ci := 11) (q0 := 0) rfl rfl rfl (q_preF hN hK hP hD)) rfl rfl hl.1 rfl (lv_room (Nat.le_of_ble_eq_true rfl)) dX11_feed_22 ⟨Nat.le_of_ble_eq_true rfl, Nat.le_of_ble_eq_true rfl⟩) hD hS hA (fun w1 H locs hw hP hD hS => ?_)
    subst hw
    refine lv_aload_n hx hb dX11_feed_25 rfl (lv_at hl 0 rfl) ?_
    refine lv_iload_n hx hb dX11_feed_26 rfl (lv_at hl 3 rfl) ?_
    obtain ⟨s4, hc, hB⟩ := bindP_inv hB
    refine q_govF (va_runV (As := [.int x3]) (rest := []) C (cr_put hc _) (cwV 1 hts gX11_feed_X11_put rfl rfl rfl (by decide +kernel) ⟨Nat.le_of_ble_eq_true rfl, Nat.le_of_ble_eq_true rfl⟩) (q_preV hK hP (ci := 11) (q0 := 0) rfl rfl rfl (q_preF hN hK hP hD)) rfl rfl hl.1 rfl (lv_room (Nat.le_of_ble_eq_true rfl)) dX11_feed_27 ⟨Nat.le_of_ble_eq_true rfl, Nat.le_of_ble_eq_true rfl⟩) hD hS hA (fun w1 H locs hw hP hD hS => ?_)
    subst hw
    refine lv_aload_n hx hb dX11_feed_30 rfl (lv_at hl 0 rfl) ?_
    refine lv_iload hx hb dX11_feed_31 (lv_at hl 4 rfl) ?_
    obtain ⟨s5, hc, hB⟩ := bindP_inv hB
    refine q_govF (va_runV (As := [.int x4]) (rest := []) C (cr_put hc _) (cwV 1 hts gX11_feed_X11_put rfl rfl rfl (by decide +kernel) ⟨Nat.le_of_ble_eq_true rfl, Nat.le_of_ble_eq_true rfl⟩) (q_preV hK hP (ci := 11) (q0 := 0) rfl rfl rfl (q_preF hN hK hP hD)) rfl rfl hl.1 rfl (lv_room (Nat.le_of_ble_eq_true rfl)) dX11_feed_33 ⟨Nat.le_of_ble_eq_true rfl, Nat.le_of_ble_eq_true rfl⟩) hD hS hA (fun w1 H locs hw hP hD hS => ?_)
    subst hw
    refine lv_aload_n hx hb dX11_feed_36 rfl (lv_at hl 0 rfl) ?_
    refine lv_iload hx hb dX11_feed_37 (lv_at hl 5 rfl) ?_
    obtain ⟨s6, hc, hB⟩ := bindP_inv hB
    refine q_govF (va_runV (As := [.int x5]) (rest := []) C (cr_put hc _) (cwV 1 hts gX11_feed_X11_put rfl rfl rfl (by decide +kernel) ⟨Nat.le_of_ble_eq_true rfl, Nat.le_of_ble_eq_true rfl⟩) (q_preV hK hP (ci := 11) (q0 := 0) rfl rfl rfl (q_preF hN hK hP hD)) rfl rfl hl.1 rfl (lv_room (Nat.le_of_ble_eq_true rfl)) dX11_feed_39 ⟨Nat.le_of_ble_eq_true rfl, Nat.le_of_ble_eq_true rfl⟩) hD hS hA (fun w1 H locs hw hP hD hS => ?_)
    subst hw
    refine lv_aload_n hx hb dX11_feed_42 rfl (lv_at hl 0 rfl) ?_
    refine q_get (v := .int (s6.v 2)) C inX11_feed_X11 hK hP 0 rfl rfl 2 (by decide) rfl LX11_feed_148 rfl dX11_feed_43 ?_
    exact q_iret C hr hlocks hK hP hD hS (Nat.le_of_ble_eq_true rfl) (Nat.le_of_ble_eq_true rfl) dX11_feed_46 (by cases hB; exact ⟨rfl, rfl⟩)
  · have hB := if_n hB c1
    refine lv_iconst (v := (-1)) hx hb dX11_feed_13 (by decide) ?_
    exact q_iret C hr hlocks hK hP hD hS (Nat.le_of_ble_eq_true rfl) (Nat.le_of_ble_eq_true rfl) dX11_feed_14 (by cases hB; exact ⟨rfl, rfl⟩)
theorem cr_feed {l : Launch} {dC : Nat → ClassId} {dI : Nat → Nat → Nat} {cB cI cJ cZ cS : ClassId} {h : Nat} {a : Nat → Nat} {r : Int32} {s' : RS} {s : RS} {x1 : Int32} {x2 : Int32} {x3 : Int32} {x4 : Int32} {x5 : Int32} (hB : r_feed s x1 x2 x3 x4 x5 = some (r, s')) : CI l yX11_feed wsX11_feed ({ frames := 1, cells := 0, slots := 0, locals := 22 }) (dC, dI) (tysA cB cI cJ cZ cS) (mwS cB cI cJ cZ h a s) [.ref h, .int x1, .int x2, .int x3, .int x4, .int x5] (fun x u => x = r ∧ u = (mwS cB cI cJ cZ h a s')) :=
  CI_of (cc := cX11_feed) (maxL := 6) (ret := (some .int)) (by decide) rfl (Nat.le_of_ble_eq_true rfl) (br_feed _ _ _ _ _ _ hB)
theorem LX11_back_148 : Cond.fieldLink RX11 148 "GuessFerryModel" "taped" "I" ∈ wsX11_back := (List.mem_cons_of_mem _ (List.mem_append_left _ (List.mem_of_getElem? (i := 0) rfl)))
theorem inX11_back_X11 : ∀ w ∈ u_ws RX11 TX11 58, w ∈ wsX11_back := fun _ h => List.mem_cons_of_mem _ (List.mem_append_right _ h)
set_option maxHeartbeats 4000000 in
set_option maxRecDepth 100000 in
theorem br_back {l : Launch} {dC : Nat → ClassId} {dI : Nat → Nat → Nat} {cB cI cJ cZ cS : ClassId} {h : Nat} {a : Nat → Nat} {as : List Value} {r : Int32} {s' : RS} (s : RS) (x1 : Int32) (hB : r_back s x1 = some (r, s')) : BlkI l yX11_back wsX11_back ({ frames := 0, cells := 0, slots := 0, locals := 0 }) cX11_back 2 (some .int) (dC, dI) (tysA cB cI cJ cZ cS) as 0 (mwS cB cI cJ cZ h a s) [(0, .ref h), (1, .int x1)] [] (fun x u => x = r ∧ u = (mwS cB cI cJ cZ h a s')) := by
  intro p e s0 m below meth c A E H locs ls hP hD hS hl
  obtain ⟨C, hr, hlocks, hA, hK, hN⟩ := id E
  obtain ⟨hx, hb, hml, hown, hts⟩ := id C
  unfold r_back at hB
  refine lv_iload_n hx hb dX11_back_0 rfl (lv_at hl 1 rfl) ?_
  refine lv_if_lt (tgt := 12) hx hb dX11_back_1 (by decide) (fun c1 => ?_) (fun c1 => ?_)
  · have hB := if_p hB c1
    refine lv_iconst (v := (-1)) hx hb dX11_back_12 (by decide) ?_
    exact q_iret C hr hlocks hK hP hD hS (Nat.le_of_ble_eq_true rfl) (Nat.le_of_ble_eq_true rfl) dX11_back_13 (by cases hB; exact ⟨rfl, rfl⟩)
  · have hB := if_n hB c1
    refine lv_iload_n hx hb dX11_back_4 rfl (lv_at hl 1 rfl) ?_
    refine lv_aload_n hx hb dX11_back_5 rfl (lv_at hl 0 rfl) ?_
    refine q_get (v := .int (s.v 2)) C inX11_back_X11 hK hP 0 rfl rfl 2 (by decide) rfl LX11_back_148 rfl dX11_back_6 ?_
    refine lv_icmp_le (tgt := 14) hx hb dX11_back_9 (by decide) (fun c2 => ?_) (fun c2 => ?_)
    · have hB := if_p hB c2
      refine lv_aload_n hx hb dX11_back_14 rfl (lv_at hl 0 rfl) ?_
      refine lv_dup hx hb dX11_back_15 rfl ?_
      refine q_get (v := .int (s.v 2)) C inX11_back_X11 hK hP 0 rfl rfl 2 (by decide) rfl LX11_back_148 rfl dX11_back_16 ?_
      refine lv_iload_n hx hb dX11_back_19 rfl (lv_at hl 1 rfl) ?_
      refine lv_isub hx hb dX11_back_20 ?_
      obtain ⟨s3, hs4, hB⟩ := letS_inv hB
      refine q_put (ty := .int) (w2 := (mwS cB cI cJ cZ h a s3)) tyX11 tyX11_ok nmX11 C inX11_back_X11 hK hP hD hS 0 rfl rfl 2 (by decide) rfl LX11_back_148 rfl (by decide +kernel) (rfl) rfl (Nat.le_of_ble_eq_true rfl) dX11_back_21 (mwS_v2 hs4) (fun H locs hP hD hS => ?_)
      refine lv_aload_n hx hb dX11_back_24 rfl (lv_at hl 0 rfl) ?_
      refine q_get (v := .int (s3.v 2)) C inX11_back_X11 hK hP 0 rfl rfl 2 (by decide) rfl LX11_back_148 rfl dX11_back_25 ?_
      exact q_iret C hr hlocks hK hP hD hS (Nat.le_of_ble_eq_true rfl) (Nat.le_of_ble_eq_true rfl) dX11_back_28 (by cases hB; exact ⟨rfl, rfl⟩)
    · have hB := if_n hB c2
      refine lv_iconst (v := (-1)) hx hb dX11_back_12 (by decide) ?_
      exact q_iret C hr hlocks hK hP hD hS (Nat.le_of_ble_eq_true rfl) (Nat.le_of_ble_eq_true rfl) dX11_back_13 (by cases hB; exact ⟨rfl, rfl⟩)
theorem cr_back {l : Launch} {dC : Nat → ClassId} {dI : Nat → Nat → Nat} {cB cI cJ cZ cS : ClassId} {h : Nat} {a : Nat → Nat} {r : Int32} {s' : RS} {s : RS} {x1 : Int32} (hB : r_back s x1 = some (r, s')) : CI l yX11_back wsX11_back ({ frames := 0, cells := 0, slots := 0, locals := 0 }) (dC, dI) (tysA cB cI cJ cZ cS) (mwS cB cI cJ cZ h a s) [.ref h, .int x1] (fun x u => x = r ∧ u = (mwS cB cI cJ cZ h a s')) :=
  CI_of (cc := cX11_back) (maxL := 2) (ret := (some .int)) (by decide) rfl (Nat.le_of_ble_eq_true rfl) (br_back _ _ hB)
theorem LX11_byteAt_154 : Cond.fieldLink RX11 154 "GuessFerryModel" "size" "I" ∈ wsX11_byteAt := (List.mem_cons_of_mem _ (List.mem_append_left _ (List.mem_of_getElem? (i := 0) rfl)))
theorem LX11_byteAt_17 : Cond.fieldLink RX11 17 "GuessFerryModel" "text" "[B" ∈ wsX11_byteAt := (List.mem_cons_of_mem _ (List.mem_append_left _ (List.mem_of_getElem? (i := 1) rfl)))
theorem inX11_byteAt_X11 : ∀ w ∈ u_ws RX11 TX11 58, w ∈ wsX11_byteAt := fun _ h => List.mem_cons_of_mem _ (List.mem_append_right _ h)
set_option maxHeartbeats 4000000 in
set_option maxRecDepth 100000 in
theorem br_byteAt {l : Launch} {dC : Nat → ClassId} {dI : Nat → Nat → Nat} {cB cI cJ cZ cS : ClassId} {h : Nat} {a : Nat → Nat} {as : List Value} {r : Int32} {s' : RS} (s : RS) (x1 : Int32) (hB : r_byteAt s x1 = some (r, s')) : BlkI l yX11_byteAt wsX11_byteAt ({ frames := 0, cells := 0, slots := 0, locals := 0 }) cX11_byteAt 2 (some .int) (dC, dI) (tysA cB cI cJ cZ cS) as 0 (mwS cB cI cJ cZ h a s) [(0, .ref h), (1, .int x1)] [] (fun x u => x = r ∧ u = (mwS cB cI cJ cZ h a s')) := by
  intro p e s0 m below meth c A E H locs ls hP hD hS hl
  obtain ⟨C, hr, hlocks, hA, hK, hN⟩ := id E
  obtain ⟨hx, hb, hml, hown, hts⟩ := id C
  unfold r_byteAt at hB
  refine lv_iload_n hx hb dX11_byteAt_0 rfl (lv_at hl 1 rfl) ?_
  refine lv_aload_n hx hb dX11_byteAt_1 rfl (lv_at hl 0 rfl) ?_
  refine q_get (v := .int (s.v 4)) C inX11_byteAt_X11 hK hP 0 rfl rfl 4 (by decide) rfl LX11_byteAt_154 rfl dX11_byteAt_2 ?_
  refine lv_icmp_ge (tgt := 21) hx hb dX11_byteAt_5 (by decide) (fun c1 => ?_) (fun c1 => ?_)
  · have hB := if_p hB c1
    refine lv_iconst (v := 0) hx hb dX11_byteAt_21 (by decide) ?_
    exact q_iret C hr hlocks hK hP hD hS (Nat.le_of_ble_eq_true rfl) (Nat.le_of_ble_eq_true rfl) dX11_byteAt_22 (by cases hB; exact ⟨rfl, rfl⟩)
  · have hB := if_n hB c1
    refine lv_aload_n hx hb dX11_byteAt_8 rfl (lv_at hl 0 rfl) ?_
    refine q_get (v := .ref (a 3)) C inX11_byteAt_X11 hK hP 0 rfl rfl 3 (by decide) rfl LX11_byteAt_17 rfl dX11_byteAt_9 ?_
    refine lv_iload_n hx hb dX11_byteAt_12 rfl (lv_at hl 1 rfl) ?_
    obtain ⟨g2, hB⟩ := guard_inv hB
    refine q_bald (x := (s.f 3 (Int32.toNatClampNeg x1))) C hK hP 2 0 rfl rfl (vpb_in g2) dX11_byteAt_13 rfl ?_
    refine lv_sipush (v := 255) hx hb dX11_byteAt_14 (by decide) ?_
    refine lv_iand hx hb dX11_byteAt_17 ?_
    refine lv_goto (tgt := 22) hx hb dX11_byteAt_18 (by decide) ?_
    exact q_iret C hr hlocks hK hP hD hS (Nat.le_of_ble_eq_true rfl) (Nat.le_of_ble_eq_true rfl) dX11_byteAt_22 (by cases hB; exact ⟨rfl, rfl⟩)
theorem cr_byteAt {l : Launch} {dC : Nat → ClassId} {dI : Nat → Nat → Nat} {cB cI cJ cZ cS : ClassId} {h : Nat} {a : Nat → Nat} {r : Int32} {s' : RS} {s : RS} {x1 : Int32} (hB : r_byteAt s x1 = some (r, s')) : CI l yX11_byteAt wsX11_byteAt ({ frames := 0, cells := 0, slots := 0, locals := 0 }) (dC, dI) (tysA cB cI cJ cZ cS) (mwS cB cI cJ cZ h a s) [.ref h, .int x1] (fun x u => x = r ∧ u = (mwS cB cI cJ cZ h a s')) :=
  CI_of (cc := cX11_byteAt) (maxL := 2) (ret := (some .int)) (by decide) rfl (Nat.le_of_ble_eq_true rfl) (br_byteAt _ _ hB)
set_option maxHeartbeats 4000000 in
set_option maxRecDepth 100000 in
theorem br_isDigit {l : Launch} {dC : Nat → ClassId} {dI : Nat → Nat → Nat} {cB cI cJ cZ cS : ClassId} {as : List Value} {r : Int32} (x0 : Int32) (hB : r_isDigit x0 = some r) : BlkI l yX11_isDigit wsX11_isDigit ({ frames := 0, cells := 0, slots := 0, locals := 0 }) cX11_isDigit 1 (some .boolean) (dC, dI) (tysA cB cI cJ cZ cS) as 0 [] [(0, .int x0)] [] (fun x _ => x = r) := by
  intro p e s0 m below meth c A E H locs ls hP hD hS hl
  obtain ⟨C, hr, hlocks, hA, hK, hN⟩ := id E
  obtain ⟨hx, hb, hml, hown, hts⟩ := id C
  unfold r_isDigit at hB
  refine lv_iload_n hx hb dX11_isDigit_0 rfl (lv_at hl 0 rfl) ?_
  refine lv_bipush (v := 48) hx hb dX11_isDigit_1 (by decide) ?_
  refine lv_icmp_lt (tgt := 16) hx hb dX11_isDigit_3 (by decide) (fun c1 => ?_) (fun c1 => ?_)
  · have hB := if_p hB c1
    refine lv_iconst (v := 0) hx hb dX11_isDigit_16 (by decide) ?_
    exact q_zret C hr hlocks (Or.inl rfl) hK hP hD hS (Nat.le_of_ble_eq_true rfl) (Nat.le_of_ble_eq_true rfl) dX11_isDigit_17 (by cases hB; rfl)
  · have hB := if_n hB c1
    refine lv_iload_n hx hb dX11_isDigit_6 rfl (lv_at hl 0 rfl) ?_
    refine lv_bipush (v := 57) hx hb dX11_isDigit_7 (by decide) ?_
    refine lv_icmp_gt (tgt := 16) hx hb dX11_isDigit_9 (by decide) (fun c2 => ?_) (fun c2 => ?_)
    · have hB := if_p hB c2
      refine lv_iconst (v := 0) hx hb dX11_isDigit_16 (by decide) ?_
      exact q_zret C hr hlocks (Or.inl rfl) hK hP hD hS (Nat.le_of_ble_eq_true rfl) (Nat.le_of_ble_eq_true rfl) dX11_isDigit_17 (by cases hB; rfl)
    · have hB := if_n hB c2
      refine lv_iconst (v := 1) hx hb dX11_isDigit_12 (by decide) ?_
      refine lv_goto (tgt := 17) hx hb dX11_isDigit_13 (by decide) ?_
      exact q_zret C hr hlocks (Or.inr rfl) hK hP hD hS (Nat.le_of_ble_eq_true rfl) (Nat.le_of_ble_eq_true rfl) dX11_isDigit_17 (by cases hB; rfl)
theorem cr_isDigit {l : Launch} {dC : Nat → ClassId} {dI : Nat → Nat → Nat} {cB cI cJ cZ cS : ClassId} {r : Int32} {x0 : Int32} (hB : r_isDigit x0 = some r) : CI l yX11_isDigit wsX11_isDigit ({ frames := 0, cells := 0, slots := 0, locals := 0 }) (dC, dI) (tysA cB cI cJ cZ cS) [] [.int x0] (fun x _ => x = r) :=
  CI_of (cc := cX11_isDigit) (maxL := 1) (ret := (some .boolean)) (by decide) rfl (Nat.le_of_ble_eq_true rfl) (br_isDigit _ hB)
set_option maxHeartbeats 4000000 in
set_option maxRecDepth 100000 in
theorem br_isLetter {l : Launch} {dC : Nat → ClassId} {dI : Nat → Nat → Nat} {cB cI cJ cZ cS : ClassId} {as : List Value} {r : Int32} (x0 : Int32) (hB : r_isLetter x0 = some r) : BlkI l yX11_isLetter wsX11_isLetter ({ frames := 0, cells := 0, slots := 0, locals := 0 }) cX11_isLetter 1 (some .boolean) (dC, dI) (tysA cB cI cJ cZ cS) as 0 [] [(0, .int x0)] [] (fun x _ => x = r) := by
  intro p e s0 m below meth c A E H locs ls hP hD hS hl
  obtain ⟨C, hr, hlocks, hA, hK, hN⟩ := id E
  obtain ⟨hx, hb, hml, hown, hts⟩ := id C
  unfold r_isLetter at hB
  refine lv_iload_n hx hb dX11_isLetter_0 rfl (lv_at hl 0 rfl) ?_
  refine lv_bipush (v := 97) hx hb dX11_isLetter_1 (by decide) ?_
  refine lv_icmp_lt (tgt := 16) hx hb dX11_isLetter_3 (by decide) (fun c1 => ?_) (fun c1 => ?_)
  · have hB := if_p hB c1
    refine lv_iconst (v := 0) hx hb dX11_isLetter_16 (by decide) ?_
    exact q_zret C hr hlocks (Or.inl rfl) hK hP hD hS (Nat.le_of_ble_eq_true rfl) (Nat.le_of_ble_eq_true rfl) dX11_isLetter_17 (by cases hB; rfl)
  · have hB := if_n hB c1
    refine lv_iload_n hx hb dX11_isLetter_6 rfl (lv_at hl 0 rfl) ?_
    refine lv_bipush (v := 122) hx hb dX11_isLetter_7 (by decide) ?_
    refine lv_icmp_gt (tgt := 16) hx hb dX11_isLetter_9 (by decide) (fun c2 => ?_) (fun c2 => ?_)
    · have hB := if_p hB c2
      refine lv_iconst (v := 0) hx hb dX11_isLetter_16 (by decide) ?_
      exact q_zret C hr hlocks (Or.inl rfl) hK hP hD hS (Nat.le_of_ble_eq_true rfl) (Nat.le_of_ble_eq_true rfl) dX11_isLetter_17 (by cases hB; rfl)
    · have hB := if_n hB c2
      refine lv_iconst (v := 1) hx hb dX11_isLetter_12 (by decide) ?_
      refine lv_goto (tgt := 17) hx hb dX11_isLetter_13 (by decide) ?_
      exact q_zret C hr hlocks (Or.inr rfl) hK hP hD hS (Nat.le_of_ble_eq_true rfl) (Nat.le_of_ble_eq_true rfl) dX11_isLetter_17 (by cases hB; rfl)
theorem cr_isLetter {l : Launch} {dC : Nat → ClassId} {dI : Nat → Nat → Nat} {cB cI cJ cZ cS : ClassId} {r : Int32} {x0 : Int32} (hB : r_isLetter x0 = some r) : CI l yX11_isLetter wsX11_isLetter ({ frames := 0, cells := 0, slots := 0, locals := 0 }) (dC, dI) (tysA cB cI cJ cZ cS) [] [.int x0] (fun x _ => x = r) :=
  CI_of (cc := cX11_isLetter) (maxL := 1) (ret := (some .boolean)) (by decide) rfl (Nat.le_of_ble_eq_true rfl) (br_isLetter _ hB)
theorem LX11_appends_K157 : Cond.constantLong RX11 157 27 ∈ wsX11_appends := (List.mem_cons_of_mem _ (List.mem_of_getElem? (i := 0) rfl))
set_option maxHeartbeats 4000000 in
set_option maxRecDepth 100000 in
theorem br_appends {l : Launch} {dC : Nat → ClassId} {dI : Nat → Nat → Nat} {cB cI cJ cZ cS : ClassId} {as : List Value} {r : Int64} (x0 : Int64) (x2 : Int32) (hB : r_appends x0 x2 = some r) : BlkL l yX11_appends wsX11_appends ({ frames := 0, cells := 0, slots := 0, locals := 0 }) cX11_appends 3 (some .long) (dC, dI) (tysA cB cI cJ cZ cS) as 0 [] [(0, .long x0), (2, .int x2)] [] (fun x _ => x = r) := by
  intro p e s0 m below meth c A E H locs ls hP hD hS hl
  obtain ⟨C, hr, hlocks, hA, hK, hN⟩ := id E
  obtain ⟨hx, hb, hml, hown, hts⟩ := id C
  unfold r_appends at hB
  refine lv_iload_n hx hb dX11_appends_0 rfl (lv_at hl 1 rfl) ?_
  refine lv_if_ne (tgt := 8) hx hb dX11_appends_1 (by decide) (fun c1 => ?_) (fun c1 => ?_)
  · have hB := if_n hB c1
    refine lv_ldc2 (v := 27) hx hb hown (hts _ LX11_appends_K157) dX11_appends_8 ?_
    refine lv_lload_n hx hb dX11_appends_11 rfl (lv_at hl 0 rfl) ?_
    refine lv_lmul hx hb dX11_appends_12 ?_
    refine lv_iload_n hx hb dX11_appends_13 rfl (lv_at hl 1 rfl) ?_
    refine lv_bipush (v := 97) hx hb dX11_appends_14 (by decide) ?_
    refine lv_isub hx hb dX11_appends_16 ?_
    refine lv_iconst (v := 1) hx hb dX11_appends_17 (by decide) ?_
    refine lv_iadd hx hb dX11_appends_18 ?_
    refine lv_i2l hx hb dX11_appends_19 rfl ?_
    refine lv_ladd hx hb dX11_appends_20 ?_
    exact q_lret C hr hlocks hK hP hD hS (Nat.le_of_ble_eq_true rfl) (Nat.le_of_ble_eq_true rfl) dX11_appends_21 (by cases hB; rfl)
  · have hB := if_p hB c1
    refine lv_lload_n hx hb dX11_appends_4 rfl (lv_at hl 0 rfl) ?_
    refine lv_goto (tgt := 21) hx hb dX11_appends_5 (by decide) ?_
    exact q_lret C hr hlocks hK hP hD hS (Nat.le_of_ble_eq_true rfl) (Nat.le_of_ble_eq_true rfl) dX11_appends_21 (by cases hB; rfl)
theorem cr_appends {l : Launch} {dC : Nat → ClassId} {dI : Nat → Nat → Nat} {cB cI cJ cZ cS : ClassId} {r : Int64} {x0 : Int64} {x2 : Int32} (hB : r_appends x0 x2 = some r) : CL l yX11_appends wsX11_appends ({ frames := 0, cells := 0, slots := 0, locals := 0 }) (dC, dI) (tysA cB cI cJ cZ cS) [] [.long x0, .int x2] (fun x _ => x = r) :=
  CL_of (cc := cX11_appends) (maxL := 3) (ret := (some .long)) (by decide) rfl (Nat.le_of_ble_eq_true rfl) (br_appends _ _ hB)
set_option maxHeartbeats 4000000 in
set_option maxRecDepth 100000 in
theorem br_word {l : Launch} {dC : Nat → ClassId} {dI : Nat → Nat → Nat} {cB cI cJ cZ cS : ClassId} {as : List Value} {r : Int64} (x0 : Int32) (x1 : Int32) (x2 : Int32) (x3 : Int32) (x4 : Int32) (x5 : Int32) (x6 : Int32) (hB : r_word x0 x1 x2 x3 x4 x5 x6 = some r) : BlkL l yX11_word wsX11_word ({ frames := 1, cells := 0, slots := 0, locals := 22 }) cX11_word 7 (some .long) (dC, dI) (tysA cB cI cJ cZ cS) as 0 [] [(0, .int x0), (1, .int x1), (2, .int x2), (3, .int x3), (4, .int x4), (5, .int x5), (6, .int x6)] [] (fun x _ => x = r) := by
  intro p e s0 m below meth c A E H locs ls hP hD hS hl
  obtain ⟨C, hr, hlocks, hA, hK, hN⟩ := id E
  obtain ⟨hx, hb, hml, hown, hts⟩ := id C
  unfold r_word at hB
  refine lv_lconst (v := 0) hx hb dX11_word_0 (by decide) ?_
  refine lv_iload_n hx hb dX11_word_1 rfl (lv_at hl 0 rfl) ?_
  obtain ⟨q_, hc, hB⟩ := bindP_inv hB
  refine q_gol0 (va_runS (As := [.long 0, .int x0]) (rest := []) C (cr_appends hc _) (va_cwS 2 hts gX11_word_X11_appends rfl rfl rfl (by decide +kernel) ⟨Nat.le_of_ble_eq_true rfl, Nat.le_of_ble_eq_true rfl⟩) (q_pre0 hN hK) rfl rfl hl.1 rfl (lv_room (Nat.le_of_ble_eq_true rfl)) dX11_word_2 ⟨Nat.le_of_ble_eq_true rfl, Nat.le_of_ble_eq_true rfl⟩) hP hD hS hA (fun r1 w1 H locs hw hP hS => ?_)
  subst hw
  refine lv_iload_n hx hb dX11_word_5 rfl (lv_at hl 1 rfl) ?_
  obtain ⟨q_, hc, hB⟩ := bindP_inv hB
  refine q_gol0 (va_runS (As := [.long r1, .int x1]) (rest := []) C (cr_appends hc _) (va_cwS 2 hts gX11_word_X11_appends rfl rfl rfl (by decide +kernel) ⟨Nat.le_of_ble_eq_true rfl, Nat.le_of_ble_eq_true rfl⟩) (q_pre0 hN hK) rfl rfl hl.1 rfl (lv_room (Nat.le_of_ble_eq_true rfl)) dX11_word_6 ⟨Nat.le_of_ble_eq_true rfl, Nat.le_of_ble_eq_true rfl⟩) hP hD hS hA (fun r2 w1 H locs hw hP hS => ?_)
  subst hw
  refine lv_iload_n hx hb dX11_word_9 rfl (lv_at hl 2 rfl) ?_
  obtain ⟨q_, hc, hB⟩ := bindP_inv hB
  refine q_gol0 (va_runS (As := [.long r2, .int x2]) (rest := []) C (cr_appends hc _) (va_cwS 2 hts gX11_word_X11_appends rfl rfl rfl (by decide +kernel) ⟨Nat.le_of_ble_eq_true rfl, Nat.le_of_ble_eq_true rfl⟩) (q_pre0 hN hK) rfl rfl hl.1 rfl (lv_room (Nat.le_of_ble_eq_true rfl)) dX11_word_10 ⟨Nat.le_of_ble_eq_true rfl, Nat.le_of_ble_eq_true rfl⟩) hP hD hS hA (fun r3 w1 H locs hw hP hS => ?_)
  subst hw
  refine lv_iload_n hx hb dX11_word_13 rfl (lv_at hl 3 rfl) ?_
  obtain ⟨q_, hc, hB⟩ := bindP_inv hB
  refine q_gol0 (va_runS (As := [.long r3, .int x3]) (rest := []) C (cr_appends hc _) (va_cwS 2 hts gX11_word_X11_appends rfl rfl rfl (by decide +kernel) ⟨Nat.le_of_ble_eq_true rfl, Nat.le_of_ble_eq_true rfl⟩) (q_pre0 hN hK) rfl rfl hl.1 rfl (lv_room (Nat.le_of_ble_eq_true rfl)) dX11_word_14 ⟨Nat.le_of_ble_eq_true rfl, Nat.le_of_ble_eq_true rfl⟩) hP hD hS hA (fun r4 w1 H locs hw hP hS => ?_)
  subst hw
  refine lv_iload hx hb dX11_word_17 (lv_at hl 4 rfl) ?_
  obtain ⟨q_, hc, hB⟩ := bindP_inv hB
  refine q_gol0 (va_runS (As := [.long r4, .int x4]) (rest := []) C (cr_appends hc _) (va_cwS 2 hts gX11_word_X11_appends rfl rfl rfl (by decide +kernel) ⟨Nat.le_of_ble_eq_true rfl, Nat.le_of_ble_eq_true rfl⟩) (q_pre0 hN hK) rfl rfl hl.1 rfl (lv_room (Nat.le_of_ble_eq_true rfl)) dX11_word_19 ⟨Nat.le_of_ble_eq_true rfl, Nat.le_of_ble_eq_true rfl⟩) hP hD hS hA (fun r5 w1 H locs hw hP hS => ?_)
  subst hw
  refine lv_iload hx hb dX11_word_22 (lv_at hl 5 rfl) ?_
  obtain ⟨q_, hc, hB⟩ := bindP_inv hB
  refine q_gol0 (va_runS (As := [.long r5, .int x5]) (rest := []) C (cr_appends hc _) (va_cwS 2 hts gX11_word_X11_appends rfl rfl rfl (by decide +kernel) ⟨Nat.le_of_ble_eq_true rfl, Nat.le_of_ble_eq_true rfl⟩) (q_pre0 hN hK) rfl rfl hl.1 rfl (lv_room (Nat.le_of_ble_eq_true rfl)) dX11_word_24 ⟨Nat.le_of_ble_eq_true rfl, Nat.le_of_ble_eq_true rfl⟩) hP hD hS hA (fun r6 w1 H locs hw hP hS => ?_)
  subst hw
  refine lv_iload hx hb dX11_word_27 (lv_at hl 6 rfl) ?_
  obtain ⟨q_, hc, hB⟩ := bindP_inv hB
  refine q_gol0 (va_runS (As := [.long r6, .int x6]) (rest := []) C (cr_appends hc _) (va_cwS 2 hts gX11_word_X11_appends rfl rfl rfl (by decide +kernel) ⟨Nat.le_of_ble_eq_true rfl, Nat.le_of_ble_eq_true rfl⟩) (q_pre0 hN hK) rfl rfl hl.1 rfl (lv_room (Nat.le_of_ble_eq_true rfl)) dX11_word_29 ⟨Nat.le_of_ble_eq_true rfl, Nat.le_of_ble_eq_true rfl⟩) hP hD hS hA (fun r7 w1 H locs hw hP hS => ?_)
  subst hw
  exact q_lret C hr hlocks hK hP hD hS (Nat.le_of_ble_eq_true rfl) (Nat.le_of_ble_eq_true rfl) dX11_word_32 (by cases hB; rfl)
theorem cr_word {l : Launch} {dC : Nat → ClassId} {dI : Nat → Nat → Nat} {cB cI cJ cZ cS : ClassId} {r : Int64} {x0 : Int32} {x1 : Int32} {x2 : Int32} {x3 : Int32} {x4 : Int32} {x5 : Int32} {x6 : Int32} (hB : r_word x0 x1 x2 x3 x4 x5 x6 = some r) : CL l yX11_word wsX11_word ({ frames := 1, cells := 0, slots := 0, locals := 22 }) (dC, dI) (tysA cB cI cJ cZ cS) [] [.int x0, .int x1, .int x2, .int x3, .int x4, .int x5, .int x6] (fun x _ => x = r) :=
  CL_of (cc := cX11_word) (maxL := 7) (ret := (some .long)) (by decide) rfl (Nat.le_of_ble_eq_true rfl) (br_word _ _ _ _ _ _ _ hB)
theorem LX11_token_163 : Cond.fieldLink RX11 163 "GuessFerryModel" "tokens" "I" ∈ wsX11_token := (List.mem_cons_of_mem _ (List.mem_append_left _ (List.mem_of_getElem? (i := 1) rfl)))
theorem LX11_token_20 : Cond.fieldLink RX11 20 "GuessFerryModel" "tKind" "[I" ∈ wsX11_token := (List.mem_cons_of_mem _ (List.mem_append_left _ (List.mem_of_getElem? (i := 0) rfl)))
theorem LX11_token_24 : Cond.fieldLink RX11 24 "GuessFerryModel" "tPlace" "[I" ∈ wsX11_token := (List.mem_cons_of_mem _ (List.mem_append_left _ (List.mem_of_getElem? (i := 2) rfl)))
theorem LX11_token_27 : Cond.fieldLink RX11 27 "GuessFerryModel" "tValue" "[I" ∈ wsX11_token := (List.mem_cons_of_mem _ (List.mem_append_left _ (List.mem_of_getElem? (i := 3) rfl)))
theorem LX11_token_30 : Cond.fieldLink RX11 30 "GuessFerryModel" "tName" "[J" ∈ wsX11_token := (List.mem_cons_of_mem _ (List.mem_append_left _ (List.mem_of_getElem? (i := 4) rfl)))
theorem inX11_token_X11 : ∀ w ∈ u_ws RX11 TX11 58, w ∈ wsX11_token := fun _ h => List.mem_cons_of_mem _ (List.mem_append_right _ h)
set_option maxHeartbeats 4000000 in
set_option maxRecDepth 100000 in
theorem br_token {l : Launch} {dC : Nat → ClassId} {dI : Nat → Nat → Nat} {cB cI cJ cZ cS : ClassId} {h : Nat} {a : Nat → Nat} {as : List Value} {s' : RS} (s : RS) (x1 : Int32) (x2 : Int32) (x3 : Int32) (x4 : Int64) (hB : r_token s x1 x2 x3 x4 = some s') : BlkV l yX11_token wsX11_token ({ frames := 0, cells := 0, slots := 0, locals := 0 }) cX11_token 6 none (dC, dI) (tysA cB cI cJ cZ cS) as 0 (mwS cB cI cJ cZ h a s) [(0, .ref h), (1, .int x1), (2, .int x2), (3, .int x3), (4, .long x4)] [] (fun u => u = (mwS cB cI cJ cZ h a s')) := by
  intro p e s0 m below meth c A E H locs ls hP hD hS hl
  obtain ⟨C, hr, hlocks, hA, hK, hN⟩ := id E
  obtain ⟨hx, hb, hml, hown, hts⟩ := id C
  unfold r_token at hB
  refine lv_aload_n hx hb dX11_token_0 rfl (lv_at hl 0 rfl) ?_
  refine q_get (v := .ref (a 5)) C inX11_token_X11 hK hP 0 rfl rfl 5 (by decide) rfl LX11_token_20 rfl dX11_token_1 ?_
  refine lv_aload_n hx hb dX11_token_4 rfl (lv_at hl 0 rfl) ?_
  refine q_get (v := .int (s.v 10)) C inX11_token_X11 hK hP 0 rfl rfl 10 (by decide) rfl LX11_token_163 rfl dX11_token_5 ?_
  refine lv_iload_n hx hb dX11_token_8 rfl (lv_at hl 1 rfl) ?_
  obtain ⟨g1, hB⟩ := guard_inv hB
  obtain ⟨s2, hs3, hB⟩ := letS_inv hB
  refine q_iast (f2 := (upd (s.f 5) (Int32.toNatClampNeg (s.v 10)) x1)) (w2 := (mwS cB cI cJ cZ h a s2)) C hK hP hD hS 3 1 rfl rfl (vpb_in g1) dX11_token_9 rfl (mwS_f5 hs3) (fun H locs hP hD hS => ?_)
  refine lv_aload_n hx hb dX11_token_10 rfl (lv_at hl 0 rfl) ?_
  refine q_get (v := .ref (a 6)) C inX11_token_X11 hK hP 0 rfl rfl 6 (by decide) rfl LX11_token_24 rfl dX11_token_11 ?_
  refine lv_aload_n hx hb dX11_token_14 rfl (lv_at hl 0 rfl) ?_
  refine q_get (v := .int (s2.v 10)) C inX11_token_X11 hK hP 0 rfl rfl 10 (by decide) rfl LX11_token_163 rfl dX11_token_15 ?_
  refine lv_iload_n hx hb dX11_token_18 rfl (lv_at hl 2 rfl) ?_
  obtain ⟨g4, hB⟩ := guard_inv hB
  obtain ⟨s5, hs6, hB⟩ := letS_inv hB
  refine q_iast (f2 := (upd (s2.f 6) (Int32.toNatClampNeg (s2.v 10)) x2)) (w2 := (mwS cB cI cJ cZ h a s5)) C hK hP hD hS 4 1 rfl rfl (vpb_in g4) dX11_token_19 rfl (mwS_f6 hs6) (fun H locs hP hD hS => ?_)
  refine lv_aload_n hx hb dX11_token_20 rfl (lv_at hl 0 rfl) ?_
  refine q_get (v := .ref (a 7)) C inX11_token_X11 hK hP 0 rfl rfl 7 (by decide) rfl LX11_token_27 rfl dX11_token_21 ?_
  refine lv_aload_n hx hb dX11_token_24 rfl (lv_at hl 0 rfl) ?_
  refine q_get (v := .int (s5.v 10)) C inX11_token_X11 hK hP 0 rfl rfl 10 (by decide) rfl LX11_token_163 rfl dX11_token_25 ?_
  refine lv_iload_n hx hb dX11_token_28 rfl (lv_at hl 3 rfl) ?_
  obtain ⟨g7, hB⟩ := guard_inv hB
  obtain ⟨s8, hs9, hB⟩ := letS_inv hB
  refine q_iast (f2 := (upd (s5.f 7) (Int32.toNatClampNeg (s5.v 10)) x3)) (w2 := (mwS cB cI cJ cZ h a s8)) C hK hP hD hS 5 1 rfl rfl (vpb_in g7) dX11_token_29 rfl (mwS_f7 hs9) (fun H locs hP hD hS => ?_)
  refine lv_aload_n hx hb dX11_token_30 rfl (lv_at hl 0 rfl) ?_
  refine q_get (v := .ref (a 8)) C inX11_token_X11 hK hP 0 rfl rfl 8 (by decide) rfl LX11_token_30 rfl dX11_token_31 ?_
  refine lv_aload_n hx hb dX11_token_34 rfl (lv_at hl 0 rfl) ?_
  refine q_get (v := .int (s8.v 10)) C inX11_token_X11 hK hP 0 rfl rfl 10 (by decide) rfl LX11_token_163 rfl dX11_token_35 ?_
  refine lv_lload hx hb dX11_token_38 (lv_at hl 4 rfl) ?_
  obtain ⟨g10, hB⟩ := guard_inv hB
  obtain ⟨s11, hs12, hB⟩ := letS_inv hB
  refine q_last (f2 := (vp_updL (s8.g 8) (Int32.toNatClampNeg (s8.v 10)) x4)) (w2 := (mwS cB cI cJ cZ h a s11)) C hK hP hD hS 6 2 rfl rfl (vpb_in g10) dX11_token_40 rfl (mwS_f8 hs12) (fun H locs hP hD hS => ?_)
  refine lv_aload_n hx hb dX11_token_41 rfl (lv_at hl 0 rfl) ?_
  refine lv_dup hx hb dX11_token_42 rfl ?_
  refine q_get (v := .int (s11.v 10)) C inX11_token_X11 hK hP 0 rfl rfl 10 (by decide) rfl LX11_token_163 rfl dX11_token_43 ?_
  refine lv_iconst (v := 1) hx hb dX11_token_46 (by decide) ?_
  refine lv_iadd hx hb dX11_token_47 ?_
  obtain ⟨s13, hs14, hB⟩ := letS_inv hB
  refine q_put (ty := .int) (w2 := (mwS cB cI cJ cZ h a s13)) tyX11 tyX11_ok nmX11 C inX11_token_X11 hK hP hD hS 0 rfl rfl 10 (by decide) rfl LX11_token_163 rfl (by decide +kernel) (rfl) rfl (Nat.le_of_ble_eq_true rfl) dX11_token_48 (mwS_v10 hs14) (fun H locs hP hD hS => ?_)
  exact q_vret C hr hlocks hK hP hD hS (Nat.le_of_ble_eq_true rfl) (Nat.le_of_ble_eq_true rfl) dX11_token_51 (by cases hB; rfl)
theorem cr_token {l : Launch} {dC : Nat → ClassId} {dI : Nat → Nat → Nat} {cB cI cJ cZ cS : ClassId} {h : Nat} {a : Nat → Nat} {s' : RS} {s : RS} {x1 : Int32} {x2 : Int32} {x3 : Int32} {x4 : Int64} (hB : r_token s x1 x2 x3 x4 = some s') : CV l yX11_token wsX11_token ({ frames := 0, cells := 0, slots := 0, locals := 0 }) (dC, dI) (tysA cB cI cJ cZ cS) (mwS cB cI cJ cZ h a s) [.ref h, .int x1, .int x2, .int x3, .long x4] (fun u => u = (mwS cB cI cJ cZ h a s')) :=
  CV_of (cc := cX11_token) (maxL := 6) (ret := none) (by decide) rfl (Nat.le_of_ble_eq_true rfl) (br_token _ _ _ _ _ hB)
set_option maxHeartbeats 4000000 in
set_option maxRecDepth 100000 in
theorem br_sign_95 {l : Launch} {dC : Nat → ClassId} {dI : Nat → Nat → Nat} {cB cI cJ cZ cS : ClassId} {h : Nat} {a : Nat → Nat} {as : List Value} {r : Int32} {s' : RS} (s : RS) (x1 : Int32) (x4 : Int32) (hB : r_sign_95 s x1 x4 = some (r, s')) : BlkI l yX11_sign wsX11_sign ({ frames := 1, cells := 0, slots := 0, locals := 25 }) cX11_sign 5 (some .int) (dC, dI) (tysA cB cI cJ cZ cS) as 95 (mwS cB cI cJ cZ h a s) [(0, .ref h), (1, .int x1), (4, .int x4)] [] (fun x u => x = r ∧ u = (mwS cB cI cJ cZ h a s')) := by
  intro p e s0 m below meth c A E H locs ls hP hD hS hl
  obtain ⟨C, hr, hlocks, hA, hK, hN⟩ := id E
  obtain ⟨hx, hb, hml, hown, hts⟩ := id C
  unfold r_sign_95 at hB
  refine lv_aload_n hx hb dX11_sign_95 rfl (lv_at hl 0 rfl) ?_
  refine lv_iload hx hb dX11_sign_96 (lv_at hl 2 rfl) ?_
  refine lv_iload_n hx hb dX11_sign_98 rfl (lv_at hl 1 rfl) ?_
  refine lv_iconst (v := 0) hx hb dX11_sign_99 (by decide) ?_
  refine lv_lconst (v := 0) hx hb dX11_sign_100 (by decide) ?_
  obtain ⟨s1, hc, hB⟩ := bindP_inv hB
  refine q_govF (va_runV (As := [.int x4, .int x1, .int 0, .long 0]) (rest := []) C (cr_token hc _) (cwV 4 hts gX11_sign_X11_token rfl rfl rfl (by decide +kernel) ⟨Nat.le_of_ble_eq_true rfl, Nat.le_of_ble_eq_true rfl⟩) (q_preV hK hP (ci := 11) (q0 := 0) rfl rfl rfl (q_preF hN hK hP hD)) rfl rfl hl.1 rfl (lv_room (Nat.le_of_ble_eq_true rfl)) dX11_sign_101 ⟨Nat.le_of_ble_eq_true rfl, Nat.le_of_ble_eq_true rfl⟩) hD hS hA (fun w1 H locs hw hP hD hS => ?_)
  subst hw
  refine lv_iconst (v := 1) hx hb dX11_sign_104 (by decide) ?_
  exact q_iret C hr hlocks hK hP hD hS (Nat.le_of_ble_eq_true rfl) (Nat.le_of_ble_eq_true rfl) dX11_sign_105 (by cases hB; exact ⟨rfl, rfl⟩)
set_option maxHeartbeats 4000000 in
set_option maxRecDepth 100000 in
theorem br_sign_85 {l : Launch} {dC : Nat → ClassId} {dI : Nat → Nat → Nat} {cB cI cJ cZ cS : ClassId} {h : Nat} {a : Nat → Nat} {as : List Value} {r : Int32} {s' : RS} (s : RS) (x1 : Int32) (x2 : Int32) (x4 : Int32) (hB : r_sign_85 s x1 x2 x4 = some (r, s')) : BlkI l yX11_sign wsX11_sign ({ frames := 1, cells := 0, slots := 0, locals := 25 }) cX11_sign 5 (some .int) (dC, dI) (tysA cB cI cJ cZ cS) as 85 (mwS cB cI cJ cZ h a s) [(0, .ref h), (1, .int x1), (2, .int x2), (4, .int x4)] [] (fun x u => x = r ∧ u = (mwS cB cI cJ cZ h a s')) := by
  intro p e s0 m below meth c A E H locs ls hP hD hS hl
  obtain ⟨C, hr, hlocks, hA, hK, hN⟩ := id E
  obtain ⟨hx, hb, hml, hown, hts⟩ := id C
  unfold r_sign_85 at hB
  refine lv_iload_n hx hb dX11_sign_85 rfl (lv_at hl 2 rfl) ?_
  refine lv_bipush (v := 60) hx hb dX11_sign_86 (by decide) ?_
  refine lv_icmp_ne (tgt := 95) hx hb dX11_sign_88 (by decide) (fun c1 => ?_) (fun c1 => ?_)
  · have hB := if_n hB c1
    exact br_sign_95 _ _ _ hB p e s0 m below meth c A E H locs ls hP hD hS (lv_sub hl [0, 1, 3] rfl)
  · have hB := if_p hB c1
    refine lv_bipush (v := 13) hx hb dX11_sign_91 (by decide) ?_
    refine lv_istore (lv' := [(4, .int 13), (0, .ref h), (1, .int x1), (2, .int x2)]) hx hb dX11_sign_93 hl (by decide) rfl (fun ls hl => ?_)
    exact br_sign_95 _ _ _ hB p e s0 m below meth c A E H locs ls hP hD hS (lv_sub hl [1, 2, 0] rfl)
set_option maxHeartbeats 4000000 in
set_option maxRecDepth 100000 in
theorem br_sign_75 {l : Launch} {dC : Nat → ClassId} {dI : Nat → Nat → Nat} {cB cI cJ cZ cS : ClassId} {h : Nat} {a : Nat → Nat} {as : List Value} {r : Int32} {s' : RS} (s : RS) (x1 : Int32) (x2 : Int32) (x4 : Int32) (hB : r_sign_75 s x1 x2 x4 = some (r, s')) : BlkI l yX11_sign wsX11_sign ({ frames := 1, cells := 0, slots := 0, locals := 25 }) cX11_sign 5 (some .int) (dC, dI) (tysA cB cI cJ cZ cS) as 75 (mwS cB cI cJ cZ h a s) [(0, .ref h), (1, .int x1), (2, .int x2), (4, .int x4)] [] (fun x u => x = r ∧ u = (mwS cB cI cJ cZ h a s')) := by
  intro p e s0 m below meth c A E H locs ls hP hD hS hl
  obtain ⟨C, hr, hlocks, hA, hK, hN⟩ := id E
  obtain ⟨hx, hb, hml, hown, hts⟩ := id C
  unfold r_sign_75 at hB
  refine lv_iload_n hx hb dX11_sign_75 rfl (lv_at hl 2 rfl) ?_
  refine lv_bipush (v := 47) hx hb dX11_sign_76 (by decide) ?_
  refine lv_icmp_ne (tgt := 85) hx hb dX11_sign_78 (by decide) (fun c1 => ?_) (fun c1 => ?_)
  · have hB := if_n hB c1
    exact br_sign_85 _ _ _ _ hB p e s0 m below meth c A E H locs ls hP hD hS (lv_sub hl [0, 1, 2, 3] rfl)
  · have hB := if_p hB c1
    refine lv_bipush (v := 15) hx hb dX11_sign_81 (by decide) ?_
    refine lv_istore (lv' := [(4, .int 15), (0, .ref h), (1, .int x1), (2, .int x2)]) hx hb dX11_sign_83 hl (by decide) rfl (fun ls hl => ?_)
    exact br_sign_85 _ _ _ _ hB p e s0 m below meth c A E H locs ls hP hD hS (lv_sub hl [1, 2, 3, 0] rfl)
set_option maxHeartbeats 4000000 in
set_option maxRecDepth 100000 in
theorem br_sign_65 {l : Launch} {dC : Nat → ClassId} {dI : Nat → Nat → Nat} {cB cI cJ cZ cS : ClassId} {h : Nat} {a : Nat → Nat} {as : List Value} {r : Int32} {s' : RS} (s : RS) (x1 : Int32) (x2 : Int32) (x4 : Int32) (hB : r_sign_65 s x1 x2 x4 = some (r, s')) : BlkI l yX11_sign wsX11_sign ({ frames := 1, cells := 0, slots := 0, locals := 25 }) cX11_sign 5 (some .int) (dC, dI) (tysA cB cI cJ cZ cS) as 65 (mwS cB cI cJ cZ h a s) [(0, .ref h), (1, .int x1), (2, .int x2), (4, .int x4)] [] (fun x u => x = r ∧ u = (mwS cB cI cJ cZ h a s')) := by
  intro p e s0 m below meth c A E H locs ls hP hD hS hl
  obtain ⟨C, hr, hlocks, hA, hK, hN⟩ := id E
  obtain ⟨hx, hb, hml, hown, hts⟩ := id C
  unfold r_sign_65 at hB
  refine lv_iload_n hx hb dX11_sign_65 rfl (lv_at hl 2 rfl) ?_
  refine lv_bipush (v := 42) hx hb dX11_sign_66 (by decide) ?_
  refine lv_icmp_ne (tgt := 75) hx hb dX11_sign_68 (by decide) (fun c1 => ?_) (fun c1 => ?_)
  · have hB := if_n hB c1
    exact br_sign_75 _ _ _ _ hB p e s0 m below meth c A E H locs ls hP hD hS (lv_sub hl [0, 1, 2, 3] rfl)
  · have hB := if_p hB c1
    refine lv_bipush (v := 10) hx hb dX11_sign_71 (by decide) ?_
    refine lv_istore (lv' := [(4, .int 10), (0, .ref h), (1, .int x1), (2, .int x2)]) hx hb dX11_sign_73 hl (by decide) rfl (fun ls hl => ?_)
    exact br_sign_75 _ _ _ _ hB p e s0 m below meth c A E H locs ls hP hD hS (lv_sub hl [1, 2, 3, 0] rfl)
set_option maxHeartbeats 4000000 in
set_option maxRecDepth 100000 in
theorem br_sign_55 {l : Launch} {dC : Nat → ClassId} {dI : Nat → Nat → Nat} {cB cI cJ cZ cS : ClassId} {h : Nat} {a : Nat → Nat} {as : List Value} {r : Int32} {s' : RS} (s : RS) (x1 : Int32) (x2 : Int32) (x4 : Int32) (hB : r_sign_55 s x1 x2 x4 = some (r, s')) : BlkI l yX11_sign wsX11_sign ({ frames := 1, cells := 0, slots := 0, locals := 25 }) cX11_sign 5 (some .int) (dC, dI) (tysA cB cI cJ cZ cS) as 55 (mwS cB cI cJ cZ h a s) [(0, .ref h), (1, .int x1), (2, .int x2), (4, .int x4)] [] (fun x u => x = r ∧ u = (mwS cB cI cJ cZ h a s')) := by
  intro p e s0 m below meth c A E H locs ls hP hD hS hl
  obtain ⟨C, hr, hlocks, hA, hK, hN⟩ := id E
  obtain ⟨hx, hb, hml, hown, hts⟩ := id C
  unfold r_sign_55 at hB
  refine lv_iload_n hx hb dX11_sign_55 rfl (lv_at hl 2 rfl) ?_
  refine lv_bipush (v := 45) hx hb dX11_sign_56 (by decide) ?_
  refine lv_icmp_ne (tgt := 65) hx hb dX11_sign_58 (by decide) (fun c1 => ?_) (fun c1 => ?_)
  · have hB := if_n hB c1
    exact br_sign_65 _ _ _ _ hB p e s0 m below meth c A E H locs ls hP hD hS (lv_sub hl [0, 1, 2, 3] rfl)
  · have hB := if_p hB c1
    refine lv_bipush (v := 9) hx hb dX11_sign_61 (by decide) ?_
    refine lv_istore (lv' := [(4, .int 9), (0, .ref h), (1, .int x1), (2, .int x2)]) hx hb dX11_sign_63 hl (by decide) rfl (fun ls hl => ?_)
    exact br_sign_65 _ _ _ _ hB p e s0 m below meth c A E H locs ls hP hD hS (lv_sub hl [1, 2, 3, 0] rfl)
set_option maxHeartbeats 4000000 in
set_option maxRecDepth 100000 in
theorem br_sign_43 {l : Launch} {dC : Nat → ClassId} {dI : Nat → Nat → Nat} {cB cI cJ cZ cS : ClassId} {h : Nat} {a : Nat → Nat} {as : List Value} {r : Int32} {s' : RS} (s : RS) (x1 : Int32) (x2 : Int32) (t0 : Int32) (hB : r_sign_43 s x1 x2 t0 = some (r, s')) : BlkI l yX11_sign wsX11_sign ({ frames := 1, cells := 0, slots := 0, locals := 25 }) cX11_sign 5 (some .int) (dC, dI) (tysA cB cI cJ cZ cS) as 43 (mwS cB cI cJ cZ h a s) [(0, .ref h), (1, .int x1), (2, .int x2)] [.int t0] (fun x u => x = r ∧ u = (mwS cB cI cJ cZ h a s')) := by
  intro p e s0 m below meth c A E H locs ls hP hD hS hl
  obtain ⟨C, hr, hlocks, hA, hK, hN⟩ := id E
  obtain ⟨hx, hb, hml, hown, hts⟩ := id C
  unfold r_sign_43 at hB
  refine lv_istore (lv' := [(4, .int t0), (0, .ref h), (1, .int x1), (2, .int x2)]) hx hb dX11_sign_43 hl (by decide) rfl (fun ls hl => ?_)
  refine lv_iload_n hx hb dX11_sign_45 rfl (lv_at hl 3 rfl) ?_
  refine lv_bipush (v := 43) hx hb dX11_sign_46 (by decide) ?_
  refine lv_icmp_ne (tgt := 55) hx hb dX11_sign_48 (by decide) (fun c1 => ?_) (fun c1 => ?_)
  · have hB := if_n hB c1
    exact br_sign_55 _ _ _ _ hB p e s0 m below meth c A E H locs ls hP hD hS (lv_sub hl [1, 2, 3, 0] rfl)
  · have hB := if_p hB c1
    refine lv_bipush (v := 8) hx hb dX11_sign_51 (by decide) ?_
    refine lv_istore (lv' := [(4, .int 8), (0, .ref h), (1, .int x1), (2, .int x2)]) hx hb dX11_sign_53 hl (by decide) rfl (fun ls hl => ?_)
    exact br_sign_55 _ _ _ _ hB p e s0 m below meth c A E H locs ls hP hD hS (lv_sub hl [1, 2, 3, 0] rfl)
set_option maxHeartbeats 4000000 in
set_option maxRecDepth 100000 in
theorem br_sign {l : Launch} {dC : Nat → ClassId} {dI : Nat → Nat → Nat} {cB cI cJ cZ cS : ClassId} {h : Nat} {a : Nat → Nat} {as : List Value} {r : Int32} {s' : RS} (s : RS) (x1 : Int32) (x2 : Int32) (x3 : Int32) (hB : r_sign s x1 x2 x3 = some (r, s')) : BlkI l yX11_sign wsX11_sign ({ frames := 1, cells := 0, slots := 0, locals := 25 }) cX11_sign 5 (some .int) (dC, dI) (tysA cB cI cJ cZ cS) as 0 (mwS cB cI cJ cZ h a s) [(0, .ref h), (1, .int x1), (2, .int x2), (3, .int x3)] [] (fun x u => x = r ∧ u = (mwS cB cI cJ cZ h a s')) := by
  intro p e s0 m below meth c A E H locs ls hP hD hS hl
  obtain ⟨C, hr, hlocks, hA, hK, hN⟩ := id E
  obtain ⟨hx, hb, hml, hown, hts⟩ := id C
  unfold r_sign at hB
  refine lv_iload_n hx hb dX11_sign_0 rfl (lv_at hl 2 rfl) ?_
  refine lv_bipush (v := 59) hx hb dX11_sign_1 (by decide) ?_
  refine lv_icmp_ne (tgt := 10) hx hb dX11_sign_3 (by decide) (fun c1 => ?_) (fun c1 => ?_)
  · have hB := if_n hB c1
    refine lv_iload_n hx hb dX11_sign_10 rfl (lv_at hl 2 rfl) ?_
    refine lv_bipush (v := 61) hx hb dX11_sign_11 (by decide) ?_
    refine lv_icmp_ne (tgt := 20) hx hb dX11_sign_13 (by decide) (fun c2 => ?_) (fun c2 => ?_)
    · have hB := if_n hB c2
      refine lv_iload_n hx hb dX11_sign_20 rfl (lv_at hl 2 rfl) ?_
      refine lv_bipush (v := 40) hx hb dX11_sign_21 (by decide) ?_
      refine lv_icmp_ne (tgt := 31) hx hb dX11_sign_23 (by decide) (fun c3 => ?_) (fun c3 => ?_)
      · have hB := if_n hB c3
        refine lv_iload_n hx hb dX11_sign_31 rfl (lv_at hl 2 rfl) ?_
        refine lv_bipush (v := 41) hx hb dX11_sign_32 (by decide) ?_
        refine lv_icmp_ne (tgt := 42) hx hb dX11_sign_34 (by decide) (fun c4 => ?_) (fun c4 => ?_)
        · have hB := if_n hB c4
          refine lv_iconst (v := 3) hx hb dX11_sign_42 (by decide) ?_
          exact br_sign_43 _ _ _ _ hB p e s0 m below meth c A E H locs ls hP hD hS (lv_sub hl [0, 1, 2] rfl)
        · have hB := if_p hB c4
          refine lv_bipush (v := 7) hx hb dX11_sign_37 (by decide) ?_
          refine lv_goto (tgt := 43) hx hb dX11_sign_39 (by decide) ?_
          exact br_sign_43 _ _ _ _ hB p e s0 m below meth c A E H locs ls hP hD hS (lv_sub hl [0, 1, 2] rfl)
      · have hB := if_p hB c3
        refine lv_bipush (v := 6) hx hb dX11_sign_26 (by decide) ?_
        refine lv_goto (tgt := 43) hx hb dX11_sign_28 (by decide) ?_
        exact br_sign_43 _ _ _ _ hB p e s0 m below meth c A E H locs ls hP hD hS (lv_sub hl [0, 1, 2] rfl)
    · have hB := if_p hB c2
      refine lv_iconst (v := 5) hx hb dX11_sign_16 (by decide) ?_
      refine lv_goto (tgt := 43) hx hb dX11_sign_17 (by decide) ?_
      exact br_sign_43 _ _ _ _ hB p e s0 m below meth c A E H locs ls hP hD hS (lv_sub hl [0, 1, 2] rfl)
  · have hB := if_p hB c1
    refine lv_iconst (v := 4) hx hb dX11_sign_6 (by decide) ?_
    refine lv_goto (tgt := 43) hx hb dX11_sign_7 (by decide) ?_
    exact br_sign_43 _ _ _ _ hB p e s0 m below meth c A E H locs ls hP hD hS (lv_sub hl [0, 1, 2] rfl)
theorem cr_sign {l : Launch} {dC : Nat → ClassId} {dI : Nat → Nat → Nat} {cB cI cJ cZ cS : ClassId} {h : Nat} {a : Nat → Nat} {r : Int32} {s' : RS} {s : RS} {x1 : Int32} {x2 : Int32} {x3 : Int32} (hB : r_sign s x1 x2 x3 = some (r, s')) : CI l yX11_sign wsX11_sign ({ frames := 1, cells := 0, slots := 0, locals := 25 }) (dC, dI) (tysA cB cI cJ cZ cS) (mwS cB cI cJ cZ h a s) [.ref h, .int x1, .int x2, .int x3] (fun x u => x = r ∧ u = (mwS cB cI cJ cZ h a s')) :=
  CI_of (cc := cX11_sign) (maxL := 5) (ret := (some .int)) (by decide) rfl (Nat.le_of_ble_eq_true rfl) (br_sign _ _ _ _ hB)
theorem LX11_cut_154 : Cond.fieldLink RX11 154 "GuessFerryModel" "size" "I" ∈ wsX11_cut := (List.mem_cons_of_mem _ (List.mem_append_left _ (List.mem_append_left _ (List.mem_of_getElem? (i := 1) rfl))))
theorem LX11_cut_163 : Cond.fieldLink RX11 163 "GuessFerryModel" "tokens" "I" ∈ wsX11_cut := (List.mem_cons_of_mem _ (List.mem_append_left _ (List.mem_append_left _ (List.mem_of_getElem? (i := 0) rfl))))
theorem LX11_cut_34 : Cond.fieldLink RX11 34 "GuessFerryModel" "keys" "[J" ∈ wsX11_cut := (List.mem_cons_of_mem _ (List.mem_append_left _ (List.mem_append_left _ (List.mem_of_getElem? (i := 2) rfl))))
theorem inX11_cut_X11 : ∀ w ∈ u_ws RX11 TX11 58, w ∈ wsX11_cut := fun w h => (List.mem_cons_of_mem _ (List.mem_append_right _ h))
set_option maxHeartbeats 4000000 in
set_option maxRecDepth 100000 in
theorem br_cut_291 {l : Launch} {dC : Nat → ClassId} {dI : Nat → Nat → Nat} {cB cI cJ cZ cS : ClassId} {h : Nat} {a : Nat → Nat} {as : List Value} {s' : RS} {k7 : RS → Int32 → Option RS} (hk7 : ∀ (s : RS) (x1 : Int32), k7 s x1 = some s' → BlkV l yX11_cut wsX11_cut ({ frames := 2, cells := 0, slots := 0, locals := 49 }) cX11_cut 8 none (dC, dI) (tysA cB cI cJ cZ cS) as 7 (mwS cB cI cJ cZ h a s) [(0, .ref h), (1, .int x1)] [] (fun u => u = (mwS cB cI cJ cZ h a s'))) (s : RS) (x1 : Int32) (hB : r_cut_291 k7 s x1 = some s') : BlkV l yX11_cut wsX11_cut ({ frames := 2, cells := 0, slots := 0, locals := 49 }) cX11_cut 8 none (dC, dI) (tysA cB cI cJ cZ cS) as 291 (mwS cB cI cJ cZ h a s) [(0, .ref h), (1, .int x1)] [] (fun u => u = (mwS cB cI cJ cZ h a s')) := by
  intro p e s0 m below meth c A E H locs ls hP hD hS hl
  obtain ⟨C, hr, hlocks, hA, hK, hN⟩ := id E
  obtain ⟨hx, hb, hml, hown, hts⟩ := id C
  unfold r_cut_291 at hB
  refine lv_goto (tgt := 7) hx hb dX11_cut_291 (by decide) ?_
  exact hk7 _ _ hB p e s0 m below meth c A E H locs ls hP hD hS (lv_sub hl [0, 1] rfl)
set_option maxHeartbeats 4000000 in
set_option maxRecDepth 100000 in
theorem br_cut_67 {l : Launch} {dC : Nat → ClassId} {dI : Nat → Nat → Nat} {cB cI cJ cZ cS : ClassId} {h : Nat} {a : Nat → Nat} {as : List Value} {s' : RS} {k7 : RS → Int32 → Option RS} (hk7 : ∀ (s : RS) (x1 : Int32), k7 s x1 = some s' → BlkV l yX11_cut wsX11_cut ({ frames := 2, cells := 0, slots := 0, locals := 49 }) cX11_cut 8 none (dC, dI) (tysA cB cI cJ cZ cS) as 7 (mwS cB cI cJ cZ h a s) [(0, .ref h), (1, .int x1)] [] (fun u => u = (mwS cB cI cJ cZ h a s'))) (s : RS) (x1 : Int32) (hB : r_cut_67 k7 s x1 = some s') : BlkV l yX11_cut wsX11_cut ({ frames := 2, cells := 0, slots := 0, locals := 49 }) cX11_cut 8 none (dC, dI) (tysA cB cI cJ cZ cS) as 67 (mwS cB cI cJ cZ h a s) [(0, .ref h), (1, .int x1)] [] (fun u => u = (mwS cB cI cJ cZ h a s')) := by
  intro p e s0 m below meth c A E H locs ls hP hD hS hl
  obtain ⟨C, hr, hlocks, hA, hK, hN⟩ := id E
  obtain ⟨hx, hb, hml, hown, hts⟩ := id C
  unfold r_cut_67 at hB
  refine lv_iinc (v := (x1 + 1)) (lv' := [(1, .int (x1 + 1)), (0, .ref h)]) hx hb dX11_cut_67 hl (k := 1) rfl (rfl) (by decide) rfl (fun ls hl => ?_)
  refine lv_goto (tgt := 291) hx hb dX11_cut_70 (by decide) ?_
  exact br_cut_291 (hk7) _ _ hB p e s0 m below meth c A E H locs ls hP hD hS (lv_sub hl [1, 0] rfl)
set_option maxHeartbeats 4000000 in
set_option maxRecDepth 100000 in
theorem br_cut_261 {l : Launch} {dC : Nat → ClassId} {dI : Nat → Nat → Nat} {cB cI cJ cZ cS : ClassId} {h : Nat} {a : Nat → Nat} {as : List Value} {s' : RS} {k7 : RS → Int32 → Option RS} (hk7 : ∀ (s : RS) (x1 : Int32), k7 s x1 = some s' → BlkV l yX11_cut wsX11_cut ({ frames := 2, cells := 0, slots := 0, locals := 49 }) cX11_cut 8 none (dC, dI) (tysA cB cI cJ cZ cS) as 7 (mwS cB cI cJ cZ h a s) [(0, .ref h), (1, .int x1)] [] (fun u => u = (mwS cB cI cJ cZ h a s'))) (s : RS) (x1 : Int32) (x3 : Int32) (x4 : Int32) (t0 : Int32) (hB : r_cut_261 k7 s x1 x3 x4 t0 = some s') : BlkV l yX11_cut wsX11_cut ({ frames := 2, cells := 0, slots := 0, locals := 49 }) cX11_cut 8 none (dC, dI) (tysA cB cI cJ cZ cS) as 261 (mwS cB cI cJ cZ h a s) [(0, .ref h), (1, .int x1), (3, .int x3), (4, .int x4)] [.int t0, .ref h] (fun u => u = (mwS cB cI cJ cZ h a s')) := by
  intro p e s0 m below meth c A E H locs ls hP hD hS hl
  obtain ⟨C, hr, hlocks, hA, hK, hN⟩ := id E
  obtain ⟨hx, hb, hml, hown, hts⟩ := id C
  unfold r_cut_261 at hB
  refine lv_iload_n hx hb dX11_cut_261 rfl (lv_at hl 1 rfl) ?_
  refine lv_iload hx hb dX11_cut_262 (lv_at hl 3 rfl) ?_
  refine lv_lconst (v := 0) hx hb dX11_cut_264 (by decide) ?_
  obtain ⟨s1, hc, hB⟩ := bindP_inv hB
  refine q_govF (va_runV (As := [.int t0, .int x1, .int x4, .long 0]) (rest := []) C (cr_token hc _) (cwV 4 hts gX11_cut_X11_token rfl rfl rfl (by decide +kernel) ⟨Nat.le_of_ble_eq_true rfl, Nat.le_of_ble_eq_true rfl⟩) (q_preV hK hP (ci := 11) (q0 := 0) rfl rfl rfl (q_preF hN hK hP hD)) rfl rfl hl.1 rfl (lv_room (Nat.le_of_ble_eq_true rfl)) dX11_cut_265 ⟨Nat.le_of_ble_eq_true rfl, Nat.le_of_ble_eq_true rfl⟩) hD hS hA (fun w1 H locs hw hP hD hS => ?_)
  subst hw
  refine lv_iload_n hx hb dX11_cut_268 rfl (lv_at hl 1 rfl) ?_
  refine lv_iload_n hx hb dX11_cut_269 rfl (lv_at hl 2 rfl) ?_
  refine lv_iadd hx hb dX11_cut_270 ?_
  refine lv_istore_n (lv' := [(1, .int (x1 + x3)), (0, .ref h), (3, .int x3), (4, .int x4)]) hx hb dX11_cut_271 rfl hl (by decide) rfl (fun ls hl => ?_)
  refine lv_goto (tgt := 291) hx hb dX11_cut_272 (by decide) ?_
  exact br_cut_291 (hk7) _ _ hB p e s0 m below meth c A E H locs ls hP hD hS (lv_sub hl [1, 0] rfl)
set_option maxHeartbeats 4000000 in
set_option maxRecDepth 100000 in
theorem br_cut_244 {l : Launch} {dC : Nat → ClassId} {dI : Nat → Nat → Nat} {cB cI cJ cZ cS : ClassId} {h : Nat} {a : Nat → Nat} {as : List Value} {s' : RS} {k7 : RS → Int32 → Option RS} {k208 : RS → Int32 → Int32 → Int32 → Option RS} (hk7 : ∀ (s : RS) (x1 : Int32), k7 s x1 = some s' → BlkV l yX11_cut wsX11_cut ({ frames := 2, cells := 0, slots := 0, locals := 49 }) cX11_cut 8 none (dC, dI) (tysA cB cI cJ cZ cS) as 7 (mwS cB cI cJ cZ h a s) [(0, .ref h), (1, .int x1)] [] (fun u => u = (mwS cB cI cJ cZ h a s'))) (hk208 : ∀ (s : RS) (x1 : Int32) (x3 : Int32) (x4 : Int32), k208 s x1 x3 x4 = some s' → BlkV l yX11_cut wsX11_cut ({ frames := 2, cells := 0, slots := 0, locals := 49 }) cX11_cut 8 none (dC, dI) (tysA cB cI cJ cZ cS) as 208 (mwS cB cI cJ cZ h a s) [(0, .ref h), (1, .int x1), (3, .int x3), (4, .int x4)] [] (fun u => u = (mwS cB cI cJ cZ h a s'))) (s : RS) (x1 : Int32) (x3 : Int32) (x4 : Int32) (hB : r_cut_244 k7 k208 s x1 x3 x4 = some s') : BlkV l yX11_cut wsX11_cut ({ frames := 2, cells := 0, slots := 0, locals := 49 }) cX11_cut 8 none (dC, dI) (tysA cB cI cJ cZ cS) as 244 (mwS cB cI cJ cZ h a s) [(0, .ref h), (1, .int x1), (3, .int x3), (4, .int x4)] [] (fun u => u = (mwS cB cI cJ cZ h a s')) := by
  intro p e s0 m below meth c A E H locs ls hP hD hS hl
  obtain ⟨C, hr, hlocks, hA, hK, hN⟩ := id E
  obtain ⟨hx, hb, hml, hown, hts⟩ := id C
  unfold r_cut_244 at hB
  refine lv_iinc (v := (x3 + 1)) (lv' := [(3, .int (x3 + 1)), (0, .ref h), (1, .int x1), (4, .int x4)]) hx hb dX11_cut_244 hl (k := 2) rfl (rfl) (by decide) rfl (fun ls hl => ?_)
  refine lv_goto (tgt := 208) hx hb dX11_cut_247 (by decide) ?_
  exact hk208 _ _ _ _ hB p e s0 m below meth c A E H locs ls hP hD hS (lv_sub hl [1, 2, 0, 3] rfl)
set_option maxHeartbeats 4000000 in
set_option maxRecDepth 100000 in
theorem br_cut_208 {l : Launch} {dC : Nat → ClassId} {dI : Nat → Nat → Nat} {cB cI cJ cZ cS : ClassId} {h : Nat} {a : Nat → Nat} {as : List Value} {s' : RS} {k7 : RS → Int32 → Option RS} {k208 : RS → Int32 → Int32 → Int32 → Option RS} (hk7 : ∀ (s : RS) (x1 : Int32), k7 s x1 = some s' → BlkV l yX11_cut wsX11_cut ({ frames := 2, cells := 0, slots := 0, locals := 49 }) cX11_cut 8 none (dC, dI) (tysA cB cI cJ cZ cS) as 7 (mwS cB cI cJ cZ h a s) [(0, .ref h), (1, .int x1)] [] (fun u => u = (mwS cB cI cJ cZ h a s'))) (hk208 : ∀ (s : RS) (x1 : Int32) (x3 : Int32) (x4 : Int32), k208 s x1 x3 x4 = some s' → BlkV l yX11_cut wsX11_cut ({ frames := 2, cells := 0, slots := 0, locals := 49 }) cX11_cut 8 none (dC, dI) (tysA cB cI cJ cZ cS) as 208 (mwS cB cI cJ cZ h a s) [(0, .ref h), (1, .int x1), (3, .int x3), (4, .int x4)] [] (fun u => u = (mwS cB cI cJ cZ h a s'))) (s : RS) (x1 : Int32) (x3 : Int32) (x4 : Int32) (hB : r_cut_208 k7 k208 s x1 x3 x4 = some s') : BlkV l yX11_cut wsX11_cut ({ frames := 2, cells := 0, slots := 0, locals := 49 }) cX11_cut 8 none (dC, dI) (tysA cB cI cJ cZ cS) as 208 (mwS cB cI cJ cZ h a s) [(0, .ref h), (1, .int x1), (3, .int x3), (4, .int x4)] [] (fun u => u = (mwS cB cI cJ cZ h a s')) := by
  intro p e s0 m below meth c A E H locs ls hP hD hS hl
  obtain ⟨C, hr, hlocks, hA, hK, hN⟩ := id E
  obtain ⟨hx, hb, hml, hown, hts⟩ := id C
  unfold r_cut_208 at hB
  refine lv_aload_n hx hb dX11_cut_208 rfl (lv_at hl 0 rfl) ?_
  refine lv_iload_n hx hb dX11_cut_209 rfl (lv_at hl 1 rfl) ?_
  refine lv_iload_n hx hb dX11_cut_210 rfl (lv_at hl 2 rfl) ?_
  refine lv_iadd hx hb dX11_cut_211 ?_
  obtain ⟨q_, s1, hc, hB⟩ := bindI_inv hB
  refine q_goiF (va_runV (As := [.int (x1 + x3)]) (rest := []) C (cr_byteAt hc _) (cwV 1 hts gX11_cut_X11_byteAt rfl rfl rfl (by decide +kernel) ⟨Nat.le_of_ble_eq_true rfl, Nat.le_of_ble_eq_true rfl⟩) (q_preV hK hP (ci := 11) (q0 := 0) rfl rfl rfl (q_preF hN hK hP hD)) rfl rfl hl.1 rfl (lv_room (Nat.le_of_ble_eq_true rfl)) dX11_cut_212 ⟨Nat.le_of_ble_eq_true rfl, Nat.le_of_ble_eq_true rfl⟩) hD hS hA (fun r2 w1 H locs hw hP hD hS => ?_)
  obtain ⟨hq_, hw⟩ := hw; subst hw; subst hq_
  obtain ⟨q_, hc, hB⟩ := bindP_inv hB
  refine q_goi0 (va_runS (As := [.int r2]) (rest := []) C (cr_isDigit hc _) (va_cwS 1 hts gX11_cut_X11_isDigit rfl rfl rfl (by decide +kernel) ⟨Nat.le_of_ble_eq_true rfl, Nat.le_of_ble_eq_true rfl⟩) (q_pre0 hN hK) rfl rfl hl.1 rfl (lv_room (Nat.le_of_ble_eq_true rfl)) dX11_cut_215 ⟨Nat.le_of_ble_eq_true rfl, Nat.le_of_ble_eq_true rfl⟩) hP hD hS hA (fun r3 w1 H locs hw hP hS => ?_)
  subst hw
  refine lv_if_eq (tgt := 250) hx hb dX11_cut_218 (by decide) (fun c4 => ?_) (fun c4 => ?_)
  · have hB := if_p hB c4
    refine lv_aload_n hx hb dX11_cut_250 rfl (lv_at hl 0 rfl) ?_
    refine lv_iload_n hx hb dX11_cut_251 rfl (lv_at hl 2 rfl) ?_
    refine lv_iconst (v := 4) hx hb dX11_cut_252 (by decide) ?_
    refine lv_icmp_le (tgt := 260) hx hb dX11_cut_253 (by decide) (fun c5 => ?_) (fun c5 => ?_)
    · have hB := if_p hB c5
      refine lv_iconst (v := 2) hx hb dX11_cut_260 (by decide) ?_
      exact br_cut_261 (hk7) _ _ _ _ _ hB p e s0 m below meth c A E H locs ls hP hD hS (lv_sub hl [0, 1, 2, 3] rfl)
    · have hB := if_n hB c5
      refine lv_iconst (v := 3) hx hb dX11_cut_256 (by decide) ?_
      refine lv_goto (tgt := 261) hx hb dX11_cut_257 (by decide) ?_
      exact br_cut_261 (hk7) _ _ _ _ _ hB p e s0 m below meth c A E H locs ls hP hD hS (lv_sub hl [0, 1, 2, 3] rfl)
  · have hB := if_n hB c4
    refine lv_iload_n hx hb dX11_cut_221 rfl (lv_at hl 2 rfl) ?_
    refine lv_iconst (v := 4) hx hb dX11_cut_222 (by decide) ?_
    refine lv_icmp_ge (tgt := 244) hx hb dX11_cut_223 (by decide) (fun c6 => ?_) (fun c6 => ?_)
    · have hB := if_p hB c6
      exact br_cut_244 (hk7) (hk208) _ _ _ _ hB p e s0 m below meth c A E H locs ls hP hD hS (lv_sub hl [0, 1, 2, 3] rfl)
    · have hB := if_n hB c6
      refine lv_bipush (v := 10) hx hb dX11_cut_226 (by decide) ?_
      refine lv_iload hx hb dX11_cut_228 (lv_at hl 3 rfl) ?_
      refine lv_imul hx hb dX11_cut_230 ?_
      refine lv_aload_n hx hb dX11_cut_231 rfl (lv_at hl 0 rfl) ?_
      refine lv_iload_n hx hb dX11_cut_232 rfl (lv_at hl 1 rfl) ?_
      refine lv_iload_n hx hb dX11_cut_233 rfl (lv_at hl 2 rfl) ?_
      refine lv_iadd hx hb dX11_cut_234 ?_
      obtain ⟨q_, s7, hc, hB⟩ := bindI_inv hB
      refine q_goiF (va_runV (As := [.int (x1 + x3)]) (rest := [.int (10 * x4)]) C (cr_byteAt hc _) (cwV 1 hts gX11_cut_X11_byteAt rfl rfl rfl (by decide +kernel) ⟨Nat.le_of_ble_eq_true rfl, Nat.le_of_ble_eq_true rfl⟩) (q_preV hK hP (ci := 11) (q0 := 0) rfl rfl rfl (q_preF hN hK hP hD)) rfl rfl hl.1 rfl (lv_room (Nat.le_of_ble_eq_true rfl)) dX11_cut_235 ⟨Nat.le_of_ble_eq_true rfl, Nat.le_of_ble_eq_true rfl⟩) hD hS hA (fun r8 w1 H locs hw hP hD hS => ?_)
      obtain ⟨hq_, hw⟩ := hw; subst hw; subst hq_
      refine lv_iadd hx hb dX11_cut_238 ?_
      refine lv_bipush (v := 48) hx hb dX11_cut_239 (by decide) ?_
      refine lv_isub hx hb dX11_cut_241 ?_
      refine lv_istore (lv' := [(4, .int (((10 * x4) + r8) - 48)), (0, .ref h), (1, .int x1), (3, .int x3)]) hx hb dX11_cut_242 hl (by decide) rfl (fun ls hl => ?_)
      exact br_cut_244 (hk7) (hk208) _ _ _ _ hB p e s0 m below meth c A E H locs ls hP hD hS (lv_sub hl [1, 2, 3, 0] rfl)
theorem br_cut_208L {l : Launch} {dC : Nat → ClassId} {dI : Nat → Nat → Nat} {cB cI cJ cZ cS : ClassId} {h : Nat} {a : Nat → Nat} {as : List Value} {s' : RS} {k7 : RS → Int32 → Option RS} (hk7 : ∀ (s : RS) (x1 : Int32), k7 s x1 = some s' → BlkV l yX11_cut wsX11_cut ({ frames := 2, cells := 0, slots := 0, locals := 49 }) cX11_cut 8 none (dC, dI) (tysA cB cI cJ cZ cS) as 7 (mwS cB cI cJ cZ h a s) [(0, .ref h), (1, .int x1)] [] (fun u => u = (mwS cB cI cJ cZ h a s'))) : ∀ (n : Nat) (s : RS) (x1 : Int32) (x3 : Int32) (x4 : Int32), r_cut_208L k7 n s x1 x3 x4 = some s' → BlkV l yX11_cut wsX11_cut ({ frames := 2, cells := 0, slots := 0, locals := 49 }) cX11_cut 8 none (dC, dI) (tysA cB cI cJ cZ cS) as 208 (mwS cB cI cJ cZ h a s) [(0, .ref h), (1, .int x1), (3, .int x3), (4, .int x4)] [] (fun u => u = (mwS cB cI cJ cZ h a s')) := by
  intro n
  induction n with
  | zero => intro s x1 x3 x4 hB; exact none_ne hB
  | succ n ih => intro s x1 x3 x4 hB; exact br_cut_208 hk7 ih _ _ _ _ hB
set_option maxHeartbeats 4000000 in
set_option maxRecDepth 100000 in
theorem br_cut_179 {l : Launch} {dC : Nat → ClassId} {dI : Nat → Nat → Nat} {cB cI cJ cZ cS : ClassId} {h : Nat} {a : Nat → Nat} {as : List Value} {s' : RS} {k7 : RS → Int32 → Option RS} (hk7 : ∀ (s : RS) (x1 : Int32), k7 s x1 = some s' → BlkV l yX11_cut wsX11_cut ({ frames := 2, cells := 0, slots := 0, locals := 49 }) cX11_cut 8 none (dC, dI) (tysA cB cI cJ cZ cS) as 7 (mwS cB cI cJ cZ h a s) [(0, .ref h), (1, .int x1)] [] (fun u => u = (mwS cB cI cJ cZ h a s'))) (s : RS) (x1 : Int32) (x3 : Int32) (x4 : Int64) (x6 : Int32) (hB : r_cut_179 k7 s x1 x3 x4 x6 = some s') : BlkV l yX11_cut wsX11_cut ({ frames := 2, cells := 0, slots := 0, locals := 49 }) cX11_cut 8 none (dC, dI) (tysA cB cI cJ cZ cS) as 179 (mwS cB cI cJ cZ h a s) [(0, .ref h), (1, .int x1), (3, .int x3), (4, .long x4), (6, .int x6)] [] (fun u => u = (mwS cB cI cJ cZ h a s')) := by
  intro p e s0 m below meth c A E H locs ls hP hD hS hl
  obtain ⟨C, hr, hlocks, hA, hK, hN⟩ := id E
  obtain ⟨hx, hb, hml, hown, hts⟩ := id C
  unfold r_cut_179 at hB
  refine lv_aload_n hx hb dX11_cut_179 rfl (lv_at hl 0 rfl) ?_
  refine lv_iload hx hb dX11_cut_180 (lv_at hl 4 rfl) ?_
  refine lv_iload_n hx hb dX11_cut_182 rfl (lv_at hl 1 rfl) ?_
  refine lv_iconst (v := 0) hx hb dX11_cut_183 (by decide) ?_
  refine lv_lload hx hb dX11_cut_184 (lv_at hl 3 rfl) ?_
  obtain ⟨s1, hc, hB⟩ := bindP_inv hB
  refine q_govF (va_runV (As := [.int x6, .int x1, .int 0, .long x4]) (rest := []) C (cr_token hc _) (cwV 4 hts gX11_cut_X11_token rfl rfl rfl (by decide +kernel) ⟨Nat.le_of_ble_eq_true rfl, Nat.le_of_ble_eq_true rfl⟩) (q_preV hK hP (ci := 11) (q0 := 0) rfl rfl rfl (q_preF hN hK hP hD)) rfl rfl hl.1 rfl (lv_room (Nat.le_of_ble_eq_true rfl)) dX11_cut_186 ⟨Nat.le_of_ble_eq_true rfl, Nat.le_of_ble_eq_true rfl⟩) hD hS hA (fun w1 H locs hw hP hD hS => ?_)
  subst hw
  refine lv_iload_n hx hb dX11_cut_189 rfl (lv_at hl 1 rfl) ?_
  refine lv_iload_n hx hb dX11_cut_190 rfl (lv_at hl 2 rfl) ?_
  refine lv_iadd hx hb dX11_cut_191 ?_
  refine lv_istore_n (lv' := [(1, .int (x1 + x3)), (0, .ref h), (3, .int x3), (4, .long x4), (6, .int x6)]) hx hb dX11_cut_192 rfl hl (by decide) rfl (fun ls hl => ?_)
  refine lv_goto (tgt := 291) hx hb dX11_cut_193 (by decide) ?_
  exact br_cut_291 (hk7) _ _ hB p e s0 m below meth c A E H locs ls hP hD hS (lv_sub hl [1, 0] rfl)
set_option maxHeartbeats 4000000 in
set_option maxRecDepth 100000 in
theorem br_cut_173 {l : Launch} {dC : Nat → ClassId} {dI : Nat → Nat → Nat} {cB cI cJ cZ cS : ClassId} {h : Nat} {a : Nat → Nat} {as : List Value} {s' : RS} {k7 : RS → Int32 → Option RS} {k146 : RS → Int32 → Int32 → Int64 → Int32 → Int32 → Option RS} (hk7 : ∀ (s : RS) (x1 : Int32), k7 s x1 = some s' → BlkV l yX11_cut wsX11_cut ({ frames := 2, cells := 0, slots := 0, locals := 49 }) cX11_cut 8 none (dC, dI) (tysA cB cI cJ cZ cS) as 7 (mwS cB cI cJ cZ h a s) [(0, .ref h), (1, .int x1)] [] (fun u => u = (mwS cB cI cJ cZ h a s'))) (hk146 : ∀ (s : RS) (x1 : Int32) (x3 : Int32) (x4 : Int64) (x6 : Int32) (x7 : Int32), k146 s x1 x3 x4 x6 x7 = some s' → BlkV l yX11_cut wsX11_cut ({ frames := 2, cells := 0, slots := 0, locals := 49 }) cX11_cut 8 none (dC, dI) (tysA cB cI cJ cZ cS) as 146 (mwS cB cI cJ cZ h a s) [(0, .ref h), (1, .int x1), (3, .int x3), (4, .long x4), (6, .int x6), (7, .int x7)] [] (fun u => u = (mwS cB cI cJ cZ h a s'))) (s : RS) (x1 : Int32) (x3 : Int32) (x4 : Int64) (x6 : Int32) (x7 : Int32) (hB : r_cut_173 k7 k146 s x1 x3 x4 x6 x7 = some s') : BlkV l yX11_cut wsX11_cut ({ frames := 2, cells := 0, slots := 0, locals := 49 }) cX11_cut 8 none (dC, dI) (tysA cB cI cJ cZ cS) as 173 (mwS cB cI cJ cZ h a s) [(0, .ref h), (1, .int x1), (3, .int x3), (4, .long x4), (6, .int x6), (7, .int x7)] [] (fun u => u = (mwS cB cI cJ cZ h a s')) := by
  intro p e s0 m below meth c A E H locs ls hP hD hS hl
  obtain ⟨C, hr, hlocks, hA, hK, hN⟩ := id E
  obtain ⟨hx, hb, hml, hown, hts⟩ := id C
  unfold r_cut_173 at hB
  refine lv_iinc (v := (x7 + 1)) (lv' := [(7, .int (x7 + 1)), (0, .ref h), (1, .int x1), (3, .int x3), (4, .long x4), (6, .int x6)]) hx hb dX11_cut_173 hl (k := 5) rfl (rfl) (by decide) rfl (fun ls hl => ?_)
  refine lv_goto (tgt := 146) hx hb dX11_cut_176 (by decide) ?_
  exact hk146 _ _ _ _ _ _ hB p e s0 m below meth c A E H locs ls hP hD hS (lv_sub hl [1, 2, 3, 4, 5, 0] rfl)
set_option maxHeartbeats 4000000 in
set_option maxRecDepth 100000 in
theorem br_cut_146 {l : Launch} {dC : Nat → ClassId} {dI : Nat → Nat → Nat} {cB cI cJ cZ cS : ClassId} {h : Nat} {a : Nat → Nat} {as : List Value} {s' : RS} {k7 : RS → Int32 → Option RS} {k146 : RS → Int32 → Int32 → Int64 → Int32 → Int32 → Option RS} (hk7 : ∀ (s : RS) (x1 : Int32), k7 s x1 = some s' → BlkV l yX11_cut wsX11_cut ({ frames := 2, cells := 0, slots := 0, locals := 49 }) cX11_cut 8 none (dC, dI) (tysA cB cI cJ cZ cS) as 7 (mwS cB cI cJ cZ h a s) [(0, .ref h), (1, .int x1)] [] (fun u => u = (mwS cB cI cJ cZ h a s'))) (hk146 : ∀ (s : RS) (x1 : Int32) (x3 : Int32) (x4 : Int64) (x6 : Int32) (x7 : Int32), k146 s x1 x3 x4 x6 x7 = some s' → BlkV l yX11_cut wsX11_cut ({ frames := 2, cells := 0, slots := 0, locals := 49 }) cX11_cut 8 none (dC, dI) (tysA cB cI cJ cZ cS) as 146 (mwS cB cI cJ cZ h a s) [(0, .ref h), (1, .int x1), (3, .int x3), (4, .long x4), (6, .int x6), (7, .int x7)] [] (fun u => u = (mwS cB cI cJ cZ h a s'))) (s : RS) (x1 : Int32) (x3 : Int32) (x4 : Int64) (x6 : Int32) (x7 : Int32) (hB : r_cut_146 k7 k146 s x1 x3 x4 x6 x7 = some s') : BlkV l yX11_cut wsX11_cut ({ frames := 2, cells := 0, slots := 0, locals := 49 }) cX11_cut 8 none (dC, dI) (tysA cB cI cJ cZ cS) as 146 (mwS cB cI cJ cZ h a s) [(0, .ref h), (1, .int x1), (3, .int x3), (4, .long x4), (6, .int x6), (7, .int x7)] [] (fun u => u = (mwS cB cI cJ cZ h a s')) := by
  intro p e s0 m below meth c A E H locs ls hP hD hS hl
  obtain ⟨C, hr, hlocks, hA, hK, hN⟩ := id E
  obtain ⟨hx, hb, hml, hown, hts⟩ := id C
  unfold r_cut_146 at hB
  refine lv_iload hx hb dX11_cut_146 (lv_at hl 5 rfl) ?_
  refine lv_bipush (v := 19) hx hb dX11_cut_148 (by decide) ?_
  refine lv_icmp_ge (tgt := 179) hx hb dX11_cut_150 (by decide) (fun c1 => ?_) (fun c1 => ?_)
  · have hB := if_p hB c1
    exact br_cut_179 (hk7) _ _ _ _ _ hB p e s0 m below meth c A E H locs ls hP hD hS (lv_sub hl [0, 1, 2, 3, 4] rfl)
  · have hB := if_n hB c1
    refine lv_aload_n hx hb dX11_cut_153 rfl (lv_at hl 0 rfl) ?_
    refine q_get (v := .ref (a 9)) C inX11_cut_X11 hK hP 0 rfl rfl 9 (by decide) rfl LX11_cut_34 rfl dX11_cut_154 ?_
    refine lv_iload hx hb dX11_cut_157 (lv_at hl 5 rfl) ?_
    obtain ⟨g2, hB⟩ := guard_inv hB
    refine q_lald (x := (s.g 9 (Int32.toNatClampNeg x7))) C hK hP 7 2 rfl rfl (vpb_in g2) dX11_cut_159 rfl ?_
    refine lv_lload hx hb dX11_cut_160 (lv_at hl 3 rfl) ?_
    refine W.lcmp hx hb dX11_cut_162 ?_
    refine lv_if_ne (tgt := 173) hx hb dX11_cut_163 (by decide) (fun c3 => ?_) (fun c3 => ?_)
    · have hB := if_n hB c3
      exact br_cut_173 (hk7) (hk146) _ _ _ _ _ _ hB p e s0 m below meth c A E H locs ls hP hD hS (lv_sub hl [0, 1, 2, 3, 4, 5] rfl)
    · have hB := if_p hB c3
      refine lv_bipush (v := 20) hx hb dX11_cut_166 (by decide) ?_
      refine lv_iload hx hb dX11_cut_168 (lv_at hl 5 rfl) ?_
      refine lv_iadd hx hb dX11_cut_170 ?_
      refine lv_istore (lv' := [(6, .int (20 + x7)), (0, .ref h), (1, .int x1), (3, .int x3), (4, .long x4), (7, .int x7)]) hx hb dX11_cut_171 hl (by decide) rfl (fun ls hl => ?_)
      exact br_cut_173 (hk7) (hk146) _ _ _ _ _ _ hB p e s0 m below meth c A E H locs ls hP hD hS (lv_sub hl [1, 2, 3, 4, 0, 5] rfl)
theorem br_cut_146L {l : Launch} {dC : Nat → ClassId} {dI : Nat → Nat → Nat} {cB cI cJ cZ cS : ClassId} {h : Nat} {a : Nat → Nat} {as : List Value} {s' : RS} {k7 : RS → Int32 → Option RS} (hk7 : ∀ (s : RS) (x1 : Int32), k7 s x1 = some s' → BlkV l yX11_cut wsX11_cut ({ frames := 2, cells := 0, slots := 0, locals := 49 }) cX11_cut 8 none (dC, dI) (tysA cB cI cJ cZ cS) as 7 (mwS cB cI cJ cZ h a s) [(0, .ref h), (1, .int x1)] [] (fun u => u = (mwS cB cI cJ cZ h a s'))) : ∀ (n : Nat) (s : RS) (x1 : Int32) (x3 : Int32) (x4 : Int64) (x6 : Int32) (x7 : Int32), r_cut_146L k7 n s x1 x3 x4 x6 x7 = some s' → BlkV l yX11_cut wsX11_cut ({ frames := 2, cells := 0, slots := 0, locals := 49 }) cX11_cut 8 none (dC, dI) (tysA cB cI cJ cZ cS) as 146 (mwS cB cI cJ cZ h a s) [(0, .ref h), (1, .int x1), (3, .int x3), (4, .long x4), (6, .int x6), (7, .int x7)] [] (fun u => u = (mwS cB cI cJ cZ h a s')) := by
  intro n
  induction n with
  | zero => intro s x1 x3 x4 x6 x7 hB; exact none_ne hB
  | succ n ih => intro s x1 x3 x4 x6 x7 hB; exact br_cut_146 hk7 ih _ _ _ _ _ _ hB
set_option maxHeartbeats 4000000 in
set_option maxRecDepth 100000 in
theorem br_cut_135 {l : Launch} {dC : Nat → ClassId} {dI : Nat → Nat → Nat} {cB cI cJ cZ cS : ClassId} {h : Nat} {a : Nat → Nat} {as : List Value} {s' : RS} {k7 : RS → Int32 → Option RS} (hk7 : ∀ (s : RS) (x1 : Int32), k7 s x1 = some s' → BlkV l yX11_cut wsX11_cut ({ frames := 2, cells := 0, slots := 0, locals := 49 }) cX11_cut 8 none (dC, dI) (tysA cB cI cJ cZ cS) as 7 (mwS cB cI cJ cZ h a s) [(0, .ref h), (1, .int x1)] [] (fun u => u = (mwS cB cI cJ cZ h a s'))) (s : RS) (x1 : Int32) (x3 : Int32) (x4 : Int64) (t0 : Int32) (hB : r_cut_135 k7 s x1 x3 x4 t0 = some s') : BlkV l yX11_cut wsX11_cut ({ frames := 2, cells := 0, slots := 0, locals := 49 }) cX11_cut 8 none (dC, dI) (tysA cB cI cJ cZ cS) as 135 (mwS cB cI cJ cZ h a s) [(0, .ref h), (1, .int x1), (3, .int x3), (4, .long x4)] [.int t0] (fun u => u = (mwS cB cI cJ cZ h a s')) := by
  intro p e s0 m below meth c A E H locs ls hP hD hS hl
  obtain ⟨C, hr, hlocks, hA, hK, hN⟩ := id E
  obtain ⟨hx, hb, hml, hown, hts⟩ := id C
  unfold r_cut_135 at hB
  refine lv_istore (lv' := [(6, .int t0), (0, .ref h), (1, .int x1), (3, .int x3), (4, .long x4)]) hx hb dX11_cut_135 hl (by decide) rfl (fun ls hl => ?_)
  refine lv_iload_n hx hb dX11_cut_137 rfl (lv_at hl 3 rfl) ?_
  refine lv_bipush (v := 8) hx hb dX11_cut_138 (by decide) ?_
  refine lv_icmp_gt (tgt := 179) hx hb dX11_cut_140 (by decide) (fun c1 => ?_) (fun c1 => ?_)
  · have hB := if_p hB c1
    exact br_cut_179 (hk7) _ _ _ _ _ hB p e s0 m below meth c A E H locs ls hP hD hS (lv_sub hl [1, 2, 3, 4, 0] rfl)
  · have hB := if_n hB c1
    refine lv_iconst (v := 0) hx hb dX11_cut_143 (by decide) ?_
    refine lv_istore (lv' := [(7, .int 0), (6, .int t0), (0, .ref h), (1, .int x1), (3, .int x3), (4, .long x4)]) hx hb dX11_cut_144 hl (by decide) rfl (fun ls hl => ?_)
    exact br_cut_146L (hk7) fu _ _ _ _ _ _ hB p e s0 m below meth c A E H locs ls hP hD hS (lv_sub hl [2, 3, 4, 5, 1, 0] rfl)
set_option maxHeartbeats 4000000 in
set_option maxRecDepth 100000 in
theorem br_cut_118 {l : Launch} {dC : Nat → ClassId} {dI : Nat → Nat → Nat} {cB cI cJ cZ cS : ClassId} {h : Nat} {a : Nat → Nat} {as : List Value} {s' : RS} {k7 : RS → Int32 → Option RS} {k85 : RS → Int32 → Int32 → Int64 → Option RS} (hk7 : ∀ (s : RS) (x1 : Int32), k7 s x1 = some s' → BlkV l yX11_cut wsX11_cut ({ frames := 2, cells := 0, slots := 0, locals := 49 }) cX11_cut 8 none (dC, dI) (tysA cB cI cJ cZ cS) as 7 (mwS cB cI cJ cZ h a s) [(0, .ref h), (1, .int x1)] [] (fun u => u = (mwS cB cI cJ cZ h a s'))) (hk85 : ∀ (s : RS) (x1 : Int32) (x3 : Int32) (x4 : Int64), k85 s x1 x3 x4 = some s' → BlkV l yX11_cut wsX11_cut ({ frames := 2, cells := 0, slots := 0, locals := 49 }) cX11_cut 8 none (dC, dI) (tysA cB cI cJ cZ cS) as 85 (mwS cB cI cJ cZ h a s) [(0, .ref h), (1, .int x1), (3, .int x3), (4, .long x4)] [] (fun u => u = (mwS cB cI cJ cZ h a s'))) (s : RS) (x1 : Int32) (x3 : Int32) (x4 : Int64) (hB : r_cut_118 k7 k85 s x1 x3 x4 = some s') : BlkV l yX11_cut wsX11_cut ({ frames := 2, cells := 0, slots := 0, locals := 49 }) cX11_cut 8 none (dC, dI) (tysA cB cI cJ cZ cS) as 118 (mwS cB cI cJ cZ h a s) [(0, .ref h), (1, .int x1), (3, .int x3), (4, .long x4)] [] (fun u => u = (mwS cB cI cJ cZ h a s')) := by
  intro p e s0 m below meth c A E H locs ls hP hD hS hl
  obtain ⟨C, hr, hlocks, hA, hK, hN⟩ := id E
  obtain ⟨hx, hb, hml, hown, hts⟩ := id C
  unfold r_cut_118 at hB
  refine lv_iinc (v := (x3 + 1)) (lv' := [(3, .int (x3 + 1)), (0, .ref h), (1, .int x1), (4, .long x4)]) hx hb dX11_cut_118 hl (k := 2) rfl (rfl) (by decide) rfl (fun ls hl => ?_)
  refine lv_goto (tgt := 85) hx hb dX11_cut_121 (by decide) ?_
  exact hk85 _ _ _ _ hB p e s0 m below meth c A E H locs ls hP hD hS (lv_sub hl [1, 2, 0, 3] rfl)
set_option maxHeartbeats 4000000 in
set_option maxRecDepth 100000 in
theorem br_cut_85 {l : Launch} {dC : Nat → ClassId} {dI : Nat → Nat → Nat} {cB cI cJ cZ cS : ClassId} {h : Nat} {a : Nat → Nat} {as : List Value} {s' : RS} {k7 : RS → Int32 → Option RS} {k85 : RS → Int32 → Int32 → Int64 → Option RS} (hk7 : ∀ (s : RS) (x1 : Int32), k7 s x1 = some s' → BlkV l yX11_cut wsX11_cut ({ frames := 2, cells := 0, slots := 0, locals := 49 }) cX11_cut 8 none (dC, dI) (tysA cB cI cJ cZ cS) as 7 (mwS cB cI cJ cZ h a s) [(0, .ref h), (1, .int x1)] [] (fun u => u = (mwS cB cI cJ cZ h a s'))) (hk85 : ∀ (s : RS) (x1 : Int32) (x3 : Int32) (x4 : Int64), k85 s x1 x3 x4 = some s' → BlkV l yX11_cut wsX11_cut ({ frames := 2, cells := 0, slots := 0, locals := 49 }) cX11_cut 8 none (dC, dI) (tysA cB cI cJ cZ cS) as 85 (mwS cB cI cJ cZ h a s) [(0, .ref h), (1, .int x1), (3, .int x3), (4, .long x4)] [] (fun u => u = (mwS cB cI cJ cZ h a s'))) (s : RS) (x1 : Int32) (x3 : Int32) (x4 : Int64) (hB : r_cut_85 k7 k85 s x1 x3 x4 = some s') : BlkV l yX11_cut wsX11_cut ({ frames := 2, cells := 0, slots := 0, locals := 49 }) cX11_cut 8 none (dC, dI) (tysA cB cI cJ cZ cS) as 85 (mwS cB cI cJ cZ h a s) [(0, .ref h), (1, .int x1), (3, .int x3), (4, .long x4)] [] (fun u => u = (mwS cB cI cJ cZ h a s')) := by
  intro p e s0 m below meth c A E H locs ls hP hD hS hl
  obtain ⟨C, hr, hlocks, hA, hK, hN⟩ := id E
  obtain ⟨hx, hb, hml, hown, hts⟩ := id C
  unfold r_cut_85 at hB
  refine lv_aload_n hx hb dX11_cut_85 rfl (lv_at hl 0 rfl) ?_
  refine lv_iload_n hx hb dX11_cut_86 rfl (lv_at hl 1 rfl) ?_
  refine lv_iload_n hx hb dX11_cut_87 rfl (lv_at hl 2 rfl) ?_
  refine lv_iadd hx hb dX11_cut_88 ?_
  obtain ⟨q_, s1, hc, hB⟩ := bindI_inv hB
  refine q_goiF (va_runV (As := [.int (x1 + x3)]) (rest := []) C (cr_byteAt hc _) (cwV 1 hts gX11_cut_X11_byteAt rfl rfl rfl (by decide +kernel) ⟨Nat.le_of_ble_eq_true rfl, Nat.le_of_ble_eq_true rfl⟩) (q_preV hK hP (ci := 11) (q0 := 0) rfl rfl rfl (q_preF hN hK hP hD)) rfl rfl hl.1 rfl (lv_room (Nat.le_of_ble_eq_true rfl)) dX11_cut_89 ⟨Nat.le_of_ble_eq_true rfl, Nat.le_of_ble_eq_true rfl⟩) hD hS hA (fun r2 w1 H locs hw hP hD hS => ?_)
  obtain ⟨hq_, hw⟩ := hw; subst hw; subst hq_
  obtain ⟨q_, hc, hB⟩ := bindP_inv hB
  refine q_goi0 (va_runS (As := [.int r2]) (rest := []) C (cr_isLetter hc _) (va_cwS 1 hts gX11_cut_X11_isLetter rfl rfl rfl (by decide +kernel) ⟨Nat.le_of_ble_eq_true rfl, Nat.le_of_ble_eq_true rfl⟩) (q_pre0 hN hK) rfl rfl hl.1 rfl (lv_room (Nat.le_of_ble_eq_true rfl)) dX11_cut_92 ⟨Nat.le_of_ble_eq_true rfl, Nat.le_of_ble_eq_true rfl⟩) hP hD hS hA (fun r3 w1 H locs hw hP hS => ?_)
  subst hw
  refine lv_if_eq (tgt := 124) hx hb dX11_cut_95 (by decide) (fun c4 => ?_) (fun c4 => ?_)
  · have hB := if_p hB c4
    refine lv_iload_n hx hb dX11_cut_124 rfl (lv_at hl 2 rfl) ?_
    refine lv_bipush (v := 8) hx hb dX11_cut_125 (by decide) ?_
    refine lv_icmp_le (tgt := 134) hx hb dX11_cut_127 (by decide) (fun c5 => ?_) (fun c5 => ?_)
    · have hB := if_p hB c5
      refine lv_iconst (v := 1) hx hb dX11_cut_134 (by decide) ?_
      exact br_cut_135 (hk7) _ _ _ _ _ hB p e s0 m below meth c A E H locs ls hP hD hS (lv_sub hl [0, 1, 2, 3] rfl)
    · have hB := if_n hB c5
      refine lv_iconst (v := 3) hx hb dX11_cut_130 (by decide) ?_
      refine lv_goto (tgt := 135) hx hb dX11_cut_131 (by decide) ?_
      exact br_cut_135 (hk7) _ _ _ _ _ hB p e s0 m below meth c A E H locs ls hP hD hS (lv_sub hl [0, 1, 2, 3] rfl)
  · have hB := if_n hB c4
    refine lv_iload_n hx hb dX11_cut_98 rfl (lv_at hl 2 rfl) ?_
    refine lv_bipush (v := 8) hx hb dX11_cut_99 (by decide) ?_
    refine lv_icmp_ge (tgt := 118) hx hb dX11_cut_101 (by decide) (fun c6 => ?_) (fun c6 => ?_)
    · have hB := if_p hB c6
      exact br_cut_118 (hk7) (hk85) _ _ _ _ hB p e s0 m below meth c A E H locs ls hP hD hS (lv_sub hl [0, 1, 2, 3] rfl)
    · have hB := if_n hB c6
      refine lv_lload hx hb dX11_cut_104 (lv_at hl 3 rfl) ?_
      refine lv_aload_n hx hb dX11_cut_106 rfl (lv_at hl 0 rfl) ?_
      refine lv_iload_n hx hb dX11_cut_107 rfl (lv_at hl 1 rfl) ?_
      refine lv_iload_n hx hb dX11_cut_108 rfl (lv_at hl 2 rfl) ?_
      refine lv_iadd hx hb dX11_cut_109 ?_
      obtain ⟨q_, s7, hc, hB⟩ := bindI_inv hB
      refine q_goiF (va_runV (As := [.int (x1 + x3)]) (rest := [.long x4]) C (cr_byteAt hc _) (cwV 1 hts gX11_cut_X11_byteAt rfl rfl rfl (by decide +kernel) ⟨Nat.le_of_ble_eq_true rfl, Nat.le_of_ble_eq_true rfl⟩) (q_preV hK hP (ci := 11) (q0 := 0) rfl rfl rfl (q_preF hN hK hP hD)) rfl rfl hl.1 rfl (lv_room (Nat.le_of_ble_eq_true rfl)) dX11_cut_110 ⟨Nat.le_of_ble_eq_true rfl, Nat.le_of_ble_eq_true rfl⟩) hD hS hA (fun r8 w1 H locs hw hP hD hS => ?_)
      obtain ⟨hq_, hw⟩ := hw; subst hw; subst hq_
      obtain ⟨q_, hc, hB⟩ := bindP_inv hB
      refine q_gol0 (va_runS (As := [.long x4, .int r8]) (rest := []) C (cr_appends hc _) (va_cwS 2 hts gX11_cut_X11_appends rfl rfl rfl (by decide +kernel) ⟨Nat.le_of_ble_eq_true rfl, Nat.le_of_ble_eq_true rfl⟩) (q_pre0 hN hK) rfl rfl hl.1 rfl (lv_room (Nat.le_of_ble_eq_true rfl)) dX11_cut_113 ⟨Nat.le_of_ble_eq_true rfl, Nat.le_of_ble_eq_true rfl⟩) hP hD hS hA (fun r9 w1 H locs hw hP hS => ?_)
      subst hw
      refine lv_lstore (lv' := [(4, .long r9), (0, .ref h), (1, .int x1), (3, .int x3)]) hx hb dX11_cut_116 hl (by decide) rfl (fun ls hl => ?_)
      exact br_cut_118 (hk7) (hk85) _ _ _ _ hB p e s0 m below meth c A E H locs ls hP hD hS (lv_sub hl [1, 2, 3, 0] rfl)
theorem br_cut_85L {l : Launch} {dC : Nat → ClassId} {dI : Nat → Nat → Nat} {cB cI cJ cZ cS : ClassId} {h : Nat} {a : Nat → Nat} {as : List Value} {s' : RS} {k7 : RS → Int32 → Option RS} (hk7 : ∀ (s : RS) (x1 : Int32), k7 s x1 = some s' → BlkV l yX11_cut wsX11_cut ({ frames := 2, cells := 0, slots := 0, locals := 49 }) cX11_cut 8 none (dC, dI) (tysA cB cI cJ cZ cS) as 7 (mwS cB cI cJ cZ h a s) [(0, .ref h), (1, .int x1)] [] (fun u => u = (mwS cB cI cJ cZ h a s'))) : ∀ (n : Nat) (s : RS) (x1 : Int32) (x3 : Int32) (x4 : Int64), r_cut_85L k7 n s x1 x3 x4 = some s' → BlkV l yX11_cut wsX11_cut ({ frames := 2, cells := 0, slots := 0, locals := 49 }) cX11_cut 8 none (dC, dI) (tysA cB cI cJ cZ cS) as 85 (mwS cB cI cJ cZ h a s) [(0, .ref h), (1, .int x1), (3, .int x3), (4, .long x4)] [] (fun u => u = (mwS cB cI cJ cZ h a s')) := by
  intro n
  induction n with
  | zero => intro s x1 x3 x4 hB; exact none_ne hB
  | succ n ih => intro s x1 x3 x4 hB; exact br_cut_85 hk7 ih _ _ _ _ hB
set_option maxHeartbeats 4000000 in
set_option maxRecDepth 100000 in
theorem br_cut_7 {l : Launch} {dC : Nat → ClassId} {dI : Nat → Nat → Nat} {cB cI cJ cZ cS : ClassId} {h : Nat} {a : Nat → Nat} {as : List Value} {s' : RS} {k7 : RS → Int32 → Option RS} (hk7 : ∀ (s : RS) (x1 : Int32), k7 s x1 = some s' → BlkV l yX11_cut wsX11_cut ({ frames := 2, cells := 0, slots := 0, locals := 49 }) cX11_cut 8 none (dC, dI) (tysA cB cI cJ cZ cS) as 7 (mwS cB cI cJ cZ h a s) [(0, .ref h), (1, .int x1)] [] (fun u => u = (mwS cB cI cJ cZ h a s'))) (s : RS) (x1 : Int32) (hB : r_cut_7 k7 s x1 = some s') : BlkV l yX11_cut wsX11_cut ({ frames := 2, cells := 0, slots := 0, locals := 49 }) cX11_cut 8 none (dC, dI) (tysA cB cI cJ cZ cS) as 7 (mwS cB cI cJ cZ h a s) [(0, .ref h), (1, .int x1)] [] (fun u => u = (mwS cB cI cJ cZ h a s')) := by
  intro p e s0 m below meth c A E H locs ls hP hD hS hl
  obtain ⟨C, hr, hlocks, hA, hK, hN⟩ := id E
  obtain ⟨hx, hb, hml, hown, hts⟩ := id C
  unfold r_cut_7 at hB
  refine lv_aload_n hx hb dX11_cut_7 rfl (lv_at hl 0 rfl) ?_
  refine q_get (v := .int (s.v 10)) C inX11_cut_X11 hK hP 0 rfl rfl 10 (by decide) rfl LX11_cut_163 rfl dX11_cut_8 ?_
  refine lv_sipush (v := 400) hx hb dX11_cut_11 (by decide) ?_
  refine lv_icmp_gt (tgt := 294) hx hb dX11_cut_14 (by decide) (fun c1 => ?_) (fun c1 => ?_)
  · have hB := if_p hB c1
    exact q_vret C hr hlocks hK hP hD hS (Nat.le_of_ble_eq_true rfl) (Nat.le_of_ble_eq_true rfl) dX11_cut_294 (by cases hB; rfl)
  · have hB := if_n hB c1
    refine lv_aload_n hx hb dX11_cut_17 rfl (lv_at hl 0 rfl) ?_
    refine lv_iload_n hx hb dX11_cut_18 rfl (lv_at hl 1 rfl) ?_
    obtain ⟨q_, s2, hc, hB⟩ := bindI_inv hB
    refine q_goiF (va_runV (As := [.int x1]) (rest := []) C (cr_byteAt hc _) (cwV 1 hts gX11_cut_X11_byteAt rfl rfl rfl (by decide +kernel) ⟨Nat.le_of_ble_eq_true rfl, Nat.le_of_ble_eq_true rfl⟩) (q_preV hK hP (ci := 11) (q0 := 0) rfl rfl rfl (q_preF hN hK hP hD)) rfl rfl hl.1 rfl (lv_room (Nat.le_of_ble_eq_true rfl)) dX11_cut_19 ⟨Nat.le_of_ble_eq_true rfl, Nat.le_of_ble_eq_true rfl⟩) hD hS hA (fun r3 w1 H locs hw hP hD hS => ?_)
    obtain ⟨hq_, hw⟩ := hw; subst hw; subst hq_
    refine lv_istore_n (lv' := [(2, .int r3), (0, .ref h), (1, .int x1)]) hx hb dX11_cut_22 rfl hl (by decide) rfl (fun ls hl => ?_)
    refine lv_iload_n hx hb dX11_cut_23 rfl (lv_at hl 2 rfl) ?_
    refine lv_aload_n hx hb dX11_cut_24 rfl (lv_at hl 1 rfl) ?_
    refine q_get (v := .int (s2.v 4)) C inX11_cut_X11 hK hP 0 rfl rfl 4 (by decide) rfl LX11_cut_154 rfl dX11_cut_25 ?_
    refine lv_icmp_lt (tgt := 43) hx hb dX11_cut_28 (by decide) (fun c4 => ?_) (fun c4 => ?_)
    · have hB := if_p hB c4
      refine lv_iload_n hx hb dX11_cut_43 rfl (lv_at hl 0 rfl) ?_
      refine lv_bipush (v := 9) hx hb dX11_cut_44 (by decide) ?_
      refine lv_icmp_eq (tgt := 67) hx hb dX11_cut_46 (by decide) (fun c5 => ?_) (fun c5 => ?_)
      · have hB := if_p hB c5
        exact br_cut_67 (hk7) _ _ hB p e s0 m below meth c A E H locs ls hP hD hS (lv_sub hl [1, 2] rfl)
      · have hB := if_n hB c5
        refine lv_iload_n hx hb dX11_cut_49 rfl (lv_at hl 0 rfl) ?_
        refine lv_bipush (v := 10) hx hb dX11_cut_50 (by decide) ?_
        refine lv_icmp_eq (tgt := 67) hx hb dX11_cut_52 (by decide) (fun c6 => ?_) (fun c6 => ?_)
        · have hB := if_p hB c6
          exact br_cut_67 (hk7) _ _ hB p e s0 m below meth c A E H locs ls hP hD hS (lv_sub hl [1, 2] rfl)
        · have hB := if_n hB c6
          refine lv_iload_n hx hb dX11_cut_55 rfl (lv_at hl 0 rfl) ?_
          refine lv_bipush (v := 13) hx hb dX11_cut_56 (by decide) ?_
          refine lv_icmp_eq (tgt := 67) hx hb dX11_cut_58 (by decide) (fun c7 => ?_) (fun c7 => ?_)
          · have hB := if_p hB c7
            exact br_cut_67 (hk7) _ _ hB p e s0 m below meth c A E H locs ls hP hD hS (lv_sub hl [1, 2] rfl)
          · have hB := if_n hB c7
            refine lv_iload_n hx hb dX11_cut_61 rfl (lv_at hl 0 rfl) ?_
            refine lv_bipush (v := 32) hx hb dX11_cut_62 (by decide) ?_
            refine lv_icmp_ne (tgt := 73) hx hb dX11_cut_64 (by decide) (fun c8 => ?_) (fun c8 => ?_)
            · have hB := if_n hB c8
              refine lv_iload_n hx hb dX11_cut_73 rfl (lv_at hl 0 rfl) ?_
              obtain ⟨q_, hc, hB⟩ := bindP_inv hB
              refine q_goi0 (va_runS (As := [.int r3]) (rest := []) C (cr_isLetter hc _) (va_cwS 1 hts gX11_cut_X11_isLetter rfl rfl rfl (by decide +kernel) ⟨Nat.le_of_ble_eq_true rfl, Nat.le_of_ble_eq_true rfl⟩) (q_pre0 hN hK) rfl rfl hl.1 rfl (lv_room (Nat.le_of_ble_eq_true rfl)) dX11_cut_74 ⟨Nat.le_of_ble_eq_true rfl, Nat.le_of_ble_eq_true rfl⟩) hP hD hS hA (fun r9 w1 H locs hw hP hS => ?_)
              subst hw
              refine lv_if_eq (tgt := 196) hx hb dX11_cut_77 (by decide) (fun c10 => ?_) (fun c10 => ?_)
              · have hB := if_p hB c10
                refine lv_iload_n hx hb dX11_cut_196 rfl (lv_at hl 0 rfl) ?_
                obtain ⟨q_, hc, hB⟩ := bindP_inv hB
                refine q_goi0 (va_runS (As := [.int r3]) (rest := []) C (cr_isDigit hc _) (va_cwS 1 hts gX11_cut_X11_isDigit rfl rfl rfl (by decide +kernel) ⟨Nat.le_of_ble_eq_true rfl, Nat.le_of_ble_eq_true rfl⟩) (q_pre0 hN hK) rfl rfl hl.1 rfl (lv_room (Nat.le_of_ble_eq_true rfl)) dX11_cut_197 ⟨Nat.le_of_ble_eq_true rfl, Nat.le_of_ble_eq_true rfl⟩) hP hD hS hA (fun r11 w1 H locs hw hP hS => ?_)
                subst hw
                refine lv_if_eq (tgt := 275) hx hb dX11_cut_200 (by decide) (fun c12 => ?_) (fun c12 => ?_)
                · have hB := if_p hB c12
                  refine lv_iload_n hx hb dX11_cut_275 rfl (lv_at hl 2 rfl) ?_
                  refine lv_aload_n hx hb dX11_cut_276 rfl (lv_at hl 1 rfl) ?_
                  refine lv_iload_n hx hb dX11_cut_277 rfl (lv_at hl 2 rfl) ?_
                  refine lv_iload_n hx hb dX11_cut_278 rfl (lv_at hl 0 rfl) ?_
                  refine lv_aload_n hx hb dX11_cut_279 rfl (lv_at hl 1 rfl) ?_
                  refine lv_iload_n hx hb dX11_cut_280 rfl (lv_at hl 2 rfl) ?_
                  refine lv_iconst (v := 1) hx hb dX11_cut_281 (by decide) ?_
                  refine lv_iadd hx hb dX11_cut_282 ?_
                  obtain ⟨q_, s13, hc, hB⟩ := bindI_inv hB
                  refine q_goiF (va_runV (As := [.int (x1 + 1)]) (rest := [.int r3, .int x1, .ref h, .int x1]) C (cr_byteAt hc _) (cwV 1 hts gX11_cut_X11_byteAt rfl rfl rfl (by decide +kernel) ⟨Nat.le_of_ble_eq_true rfl, Nat.le_of_ble_eq_true rfl⟩) (q_preV hK hP (ci := 11) (q0 := 0) rfl rfl rfl (q_preF hN hK hP hD)) rfl rfl hl.1 rfl (lv_room (Nat.le_of_ble_eq_true rfl)) dX11_cut_283 ⟨Nat.le_of_ble_eq_true rfl, Nat.le_of_ble_eq_true rfl⟩) hD hS hA (fun r14 w1 H locs hw hP hD hS => ?_)
                  obtain ⟨hq_, hw⟩ := hw; subst hw; subst hq_
                  obtain ⟨q_, s15, hc, hB⟩ := bindI_inv hB
                  refine q_goiF (va_runV (As := [.int x1, .int r3, .int r14]) (rest := [.int x1]) C (cr_sign hc _) (cwV 3 hts gX11_cut_X11_sign rfl rfl rfl (by decide +kernel) ⟨Nat.le_of_ble_eq_true rfl, Nat.le_of_ble_eq_true rfl⟩) (q_preV hK hP (ci := 11) (q0 := 0) rfl rfl rfl (q_preF hN hK hP hD)) rfl rfl hl.1 rfl (lv_room (Nat.le_of_ble_eq_true rfl)) dX11_cut_286 ⟨Nat.le_of_ble_eq_true rfl, Nat.le_of_ble_eq_true rfl⟩) hD hS hA (fun r16 w1 H locs hw hP hD hS => ?_)
                  obtain ⟨hq_, hw⟩ := hw; subst hw; subst hq_
                  refine lv_iadd hx hb dX11_cut_289 ?_
                  refine lv_istore_n (lv' := [(1, .int (x1 + r16)), (2, .int r3), (0, .ref h)]) hx hb dX11_cut_290 rfl hl (by decide) rfl (fun ls hl => ?_)
                  exact br_cut_291 (hk7) _ _ hB p e s0 m below meth c A E H locs ls hP hD hS (lv_sub hl [2, 0] rfl)
                · have hB := if_n hB c12
                  refine lv_iconst (v := 0) hx hb dX11_cut_203 (by decide) ?_
                  refine lv_istore_n (lv' := [(3, .int 0), (2, .int r3), (0, .ref h), (1, .int x1)]) hx hb dX11_cut_204 rfl hl (by decide) rfl (fun ls hl => ?_)
                  refine lv_iconst (v := 0) hx hb dX11_cut_205 (by decide) ?_
                  refine lv_istore (lv' := [(4, .int 0), (3, .int 0), (2, .int r3), (0, .ref h), (1, .int x1)]) hx hb dX11_cut_206 hl (by decide) rfl (fun ls hl => ?_)
                  exact br_cut_208L (hk7) fu _ _ _ _ hB p e s0 m below meth c A E H locs ls hP hD hS (lv_sub hl [3, 4, 1, 0] rfl)
              · have hB := if_n hB c10
                refine lv_iconst (v := 0) hx hb dX11_cut_80 (by decide) ?_
                refine lv_istore_n (lv' := [(3, .int 0), (2, .int r3), (0, .ref h), (1, .int x1)]) hx hb dX11_cut_81 rfl hl (by decide) rfl (fun ls hl => ?_)
                refine lv_lconst (v := 0) hx hb dX11_cut_82 (by decide) ?_
                refine lv_lstore (lv' := [(4, .long 0), (3, .int 0), (2, .int r3), (0, .ref h), (1, .int x1)]) hx hb dX11_cut_83 hl (by decide) rfl (fun ls hl => ?_)
                exact br_cut_85L (hk7) fu _ _ _ _ hB p e s0 m below meth c A E H locs ls hP hD hS (lv_sub hl [3, 4, 1, 0] rfl)
            · have hB := if_p hB c8
              exact br_cut_67 (hk7) _ _ hB p e s0 m below meth c A E H locs ls hP hD hS (lv_sub hl [1, 2] rfl)
    · have hB := if_n hB c4
      refine lv_aload_n hx hb dX11_cut_31 rfl (lv_at hl 1 rfl) ?_
      refine lv_iconst (v := 0) hx hb dX11_cut_32 (by decide) ?_
      refine lv_aload_n hx hb dX11_cut_33 rfl (lv_at hl 1 rfl) ?_
      refine q_get (v := .int (s2.v 4)) C inX11_cut_X11 hK hP 0 rfl rfl 4 (by decide) rfl LX11_cut_154 rfl dX11_cut_34 ?_
      refine lv_iconst (v := 0) hx hb dX11_cut_37 (by decide) ?_
      refine lv_lconst (v := 0) hx hb dX11_cut_38 (by decide) ?_
      obtain ⟨s17, hc, hB⟩ := bindP_inv hB
      refine q_govF (va_runV (As := [.int 0, .int (s2.v 4), .int 0, .long 0]) (rest := []) C (cr_token hc _) (cwV 4 hts gX11_cut_X11_token rfl rfl rfl (by decide +kernel) ⟨Nat.le_of_ble_eq_true rfl, Nat.le_of_ble_eq_true rfl⟩) (q_preV hK hP (ci := 11) (q0 := 0) rfl rfl rfl (q_preF hN hK hP hD)) rfl rfl hl.1 rfl (lv_room (Nat.le_of_ble_eq_true rfl)) dX11_cut_39 ⟨Nat.le_of_ble_eq_true rfl, Nat.le_of_ble_eq_true rfl⟩) hD hS hA (fun w1 H locs hw hP hD hS => ?_)
      subst hw
      exact q_vret C hr hlocks hK hP hD hS (Nat.le_of_ble_eq_true rfl) (Nat.le_of_ble_eq_true rfl) dX11_cut_42 (by cases hB; rfl)
theorem br_cut_7L {l : Launch} {dC : Nat → ClassId} {dI : Nat → Nat → Nat} {cB cI cJ cZ cS : ClassId} {h : Nat} {a : Nat → Nat} {as : List Value} {s' : RS} : ∀ (n : Nat) (s : RS) (x1 : Int32), r_cut_7L n s x1 = some s' → BlkV l yX11_cut wsX11_cut ({ frames := 2, cells := 0, slots := 0, locals := 49 }) cX11_cut 8 none (dC, dI) (tysA cB cI cJ cZ cS) as 7 (mwS cB cI cJ cZ h a s) [(0, .ref h), (1, .int x1)] [] (fun u => u = (mwS cB cI cJ cZ h a s')) := by
  intro n
  induction n with
  | zero => intro s x1 hB; exact none_ne hB
  | succ n ih => intro s x1 hB; exact br_cut_7 ih _ _ hB
set_option maxHeartbeats 4000000 in
set_option maxRecDepth 100000 in
theorem br_cut {l : Launch} {dC : Nat → ClassId} {dI : Nat → Nat → Nat} {cB cI cJ cZ cS : ClassId} {h : Nat} {a : Nat → Nat} {as : List Value} {s' : RS} (s : RS) (hB : r_cut s = some s') : BlkV l yX11_cut wsX11_cut ({ frames := 2, cells := 0, slots := 0, locals := 49 }) cX11_cut 8 none (dC, dI) (tysA cB cI cJ cZ cS) as 0 (mwS cB cI cJ cZ h a s) [(0, .ref h)] [] (fun u => u = (mwS cB cI cJ cZ h a s')) := by
  intro p e s0 m below meth c A E H locs ls hP hD hS hl
  obtain ⟨C, hr, hlocks, hA, hK, hN⟩ := id E
  obtain ⟨hx, hb, hml, hown, hts⟩ := id C
  unfold r_cut at hB
  refine lv_aload_n hx hb dX11_cut_0 rfl (lv_at hl 0 rfl) ?_
  refine lv_iconst (v := 0) hx hb dX11_cut_1 (by decide) ?_
  obtain ⟨s1, hs2, hB⟩ := letS_inv hB
  refine q_put (ty := .int) (w2 := (mwS cB cI cJ cZ h a s1)) tyX11 tyX11_ok nmX11 C inX11_cut_X11 hK hP hD hS 0 rfl rfl 10 (by decide) rfl LX11_cut_163 rfl (by decide +kernel) (rfl) rfl (Nat.le_of_ble_eq_true rfl) dX11_cut_2 (mwS_v10 hs2) (fun H locs hP hD hS => ?_)
  refine lv_iconst (v := 0) hx hb dX11_cut_5 (by decide) ?_
  refine lv_istore_n (lv' := [(1, .int 0), (0, .ref h)]) hx hb dX11_cut_6 rfl hl (by decide) rfl (fun ls hl => ?_)
  exact br_cut_7L fu _ _ hB p e s0 m below meth c A E H locs ls hP hD hS (lv_sub hl [1, 0] rfl)
theorem cr_cut {l : Launch} {dC : Nat → ClassId} {dI : Nat → Nat → Nat} {cB cI cJ cZ cS : ClassId} {h : Nat} {a : Nat → Nat} {s' : RS} {s : RS} (hB : r_cut s = some s') : CV l yX11_cut wsX11_cut ({ frames := 2, cells := 0, slots := 0, locals := 49 }) (dC, dI) (tysA cB cI cJ cZ cS) (mwS cB cI cJ cZ h a s) [.ref h] (fun u => u = (mwS cB cI cJ cZ h a s')) :=
  CV_of (cc := cX11_cut) (maxL := 8) (ret := none) (by decide) rfl (Nat.le_of_ble_eq_true rfl) (br_cut _ hB)
end
section
theorem dX11_is_0 : decode cX11_is 0 = .ok (.aload_n 0, 1) := dc1_42 (by decide +kernel)
theorem dX11_is_1 : decode cX11_is 1 = .ok (.getfield 185, 3) := dcw_180 (by decide +kernel)
theorem dX11_is_4 : decode cX11_is 4 = .ok (.ifCond .ne 20, 3) := dcs_154 (n := 20) (by decide +kernel)
theorem dX11_is_7 : decode cX11_is 7 = .ok (.aload_n 0, 1) := dc1_42 (by decide +kernel)
theorem dX11_is_8 : decode cX11_is 8 = .ok (.getfield 20, 3) := dcw_180 (by decide +kernel)
theorem dX11_is_11 : decode cX11_is 11 = .ok (.aload_n 0, 1) := dc1_42 (by decide +kernel)
theorem dX11_is_12 : decode cX11_is 12 = .ok (.getfield 188, 3) := dcw_180 (by decide +kernel)
theorem dX11_is_15 : decode cX11_is 15 = .ok (.iaload, 1) := dc1_46 (by decide +kernel)
theorem dX11_is_16 : decode cX11_is 16 = .ok (.iload_n 1, 1) := dc1_27 (by decide +kernel)
theorem dX11_is_17 : decode cX11_is 17 = .ok (.if_icmp .ne 7, 3) := dcs_160 (n := 7) (by decide +kernel)
theorem dX11_is_20 : decode cX11_is 20 = .ok (.iconst 1, 1) := dc1_4 (by decide +kernel)
theorem dX11_is_21 : decode cX11_is 21 = .ok (.goto 4, 3) := dcs_167 (n := 4) (by decide +kernel)
theorem dX11_is_24 : decode cX11_is 24 = .ok (.iconst 0, 1) := dc1_3 (by decide +kernel)
theorem dX11_is_25 : decode cX11_is 25 = .ok (.ireturn, 1) := dc1_172 (by decide +kernel)
theorem dX11_fail_0 : decode cX11_fail 0 = .ok (.aload_n 0, 1) := dc1_42 (by decide +kernel)
theorem dX11_fail_1 : decode cX11_fail 1 = .ok (.getfield 185, 3) := dcw_180 (by decide +kernel)
theorem dX11_fail_4 : decode cX11_fail 4 = .ok (.ifCond .le 4, 3) := dcs_158 (n := 4) (by decide +kernel)
theorem dX11_fail_7 : decode cX11_fail 7 = .ok (.return_, 1) := dc1_177 (by decide +kernel)
theorem dX11_fail_8 : decode cX11_fail 8 = .ok (.aload_n 0, 1) := dc1_42 (by decide +kernel)
theorem dX11_fail_9 : decode cX11_fail 9 = .ok (.iload_n 1, 1) := dc1_27 (by decide +kernel)
theorem dX11_fail_10 : decode cX11_fail 10 = .ok (.putfield 185, 3) := dcw_181 (by decide +kernel)
theorem dX11_fail_13 : decode cX11_fail 13 = .ok (.aload_n 0, 1) := dc1_42 (by decide +kernel)
theorem dX11_fail_14 : decode cX11_fail 14 = .ok (.aload_n 0, 1) := dc1_42 (by decide +kernel)
theorem dX11_fail_15 : decode cX11_fail 15 = .ok (.getfield 24, 3) := dcw_180 (by decide +kernel)
theorem dX11_fail_18 : decode cX11_fail 18 = .ok (.aload_n 0, 1) := dc1_42 (by decide +kernel)
theorem dX11_fail_19 : decode cX11_fail 19 = .ok (.getfield 188, 3) := dcw_180 (by decide +kernel)
theorem dX11_fail_22 : decode cX11_fail 22 = .ok (.iaload, 1) := dc1_46 (by decide +kernel)
theorem dX11_fail_23 : decode cX11_fail 23 = .ok (.putfield 191, 3) := dcw_181 (by decide +kernel)
theorem dX11_fail_26 : decode cX11_fail 26 = .ok (.return_, 1) := dc1_177 (by decide +kernel)
theorem dX11_wrong_0 : decode cX11_wrong 0 = .ok (.aload_n 0, 1) := dc1_42 (by decide +kernel)
theorem dX11_wrong_1 : decode cX11_wrong 1 = .ok (.getfield 24, 3) := dcw_180 (by decide +kernel)
theorem dX11_wrong_4 : decode cX11_wrong 4 = .ok (.iload_n 2, 1) := dc1_28 (by decide +kernel)
theorem dX11_wrong_5 : decode cX11_wrong 5 = .ok (.iaload, 1) := dc1_46 (by decide +kernel)
theorem dX11_wrong_6 : decode cX11_wrong 6 = .ok (.istore_n 3, 1) := dc1_62 (by decide +kernel)
theorem dX11_wrong_7 : decode cX11_wrong 7 = .ok (.aload_n 0, 1) := dc1_42 (by decide +kernel)
theorem dX11_wrong_8 : decode cX11_wrong 8 = .ok (.getfield 185, 3) := dcw_180 (by decide +kernel)
theorem dX11_wrong_11 : decode cX11_wrong 11 = .ok (.ifCond .gt 34, 3) := dcs_157 (n := 34) (by decide +kernel)
theorem dX11_wrong_14 : decode cX11_wrong 14 = .ok (.aload_n 0, 1) := dc1_42 (by decide +kernel)
theorem dX11_wrong_15 : decode cX11_wrong 15 = .ok (.getfield 194, 3) := dcw_180 (by decide +kernel)
theorem dX11_wrong_18 : decode cX11_wrong 18 = .ok (.ifCond .eq 28, 3) := dcs_153 (n := 28) (by decide +kernel)
theorem dX11_wrong_21 : decode cX11_wrong 21 = .ok (.iload_n 3, 1) := dc1_29 (by decide +kernel)
theorem dX11_wrong_22 : decode cX11_wrong 22 = .ok (.aload_n 0, 1) := dc1_42 (by decide +kernel)
theorem dX11_wrong_23 : decode cX11_wrong 23 = .ok (.getfield 197, 3) := dcw_180 (by decide +kernel)
theorem dX11_wrong_26 : decode cX11_wrong 26 = .ok (.if_icmp .gt 19, 3) := dcs_163 (n := 19) (by decide +kernel)
theorem dX11_wrong_29 : decode cX11_wrong 29 = .ok (.iload_n 3, 1) := dc1_29 (by decide +kernel)
theorem dX11_wrong_30 : decode cX11_wrong 30 = .ok (.aload_n 0, 1) := dc1_42 (by decide +kernel)
theorem dX11_wrong_31 : decode cX11_wrong 31 = .ok (.getfield 197, 3) := dcw_180 (by decide +kernel)
theorem dX11_wrong_34 : decode cX11_wrong 34 = .ok (.if_icmp .ne 12, 3) := dcs_160 (n := 12) (by decide +kernel)
theorem dX11_wrong_37 : decode cX11_wrong 37 = .ok (.iload_n 1, 1) := dc1_27 (by decide +kernel)
theorem dX11_wrong_38 : decode cX11_wrong 38 = .ok (.aload_n 0, 1) := dc1_42 (by decide +kernel)
theorem dX11_wrong_39 : decode cX11_wrong 39 = .ok (.getfield 194, 3) := dcw_180 (by decide +kernel)
theorem dX11_wrong_42 : decode cX11_wrong 42 = .ok (.if_icmp .lt 4, 3) := dcs_161 (n := 4) (by decide +kernel)
theorem dX11_wrong_45 : decode cX11_wrong 45 = .ok (.return_, 1) := dc1_177 (by decide +kernel)
theorem dX11_wrong_46 : decode cX11_wrong 46 = .ok (.aload_n 0, 1) := dc1_42 (by decide +kernel)
theorem dX11_wrong_47 : decode cX11_wrong 47 = .ok (.iload_n 1, 1) := dc1_27 (by decide +kernel)
theorem dX11_wrong_48 : decode cX11_wrong 48 = .ok (.putfield 194, 3) := dcw_181 (by decide +kernel)
theorem dX11_wrong_51 : decode cX11_wrong 51 = .ok (.aload_n 0, 1) := dc1_42 (by decide +kernel)
theorem dX11_wrong_52 : decode cX11_wrong 52 = .ok (.iload_n 3, 1) := dc1_29 (by decide +kernel)
theorem dX11_wrong_53 : decode cX11_wrong 53 = .ok (.putfield 197, 3) := dcw_181 (by decide +kernel)
theorem dX11_wrong_56 : decode cX11_wrong 56 = .ok (.return_, 1) := dc1_177 (by decide +kernel)
theorem ggX11_goesOn_X11_fail : GoodIn wsX11_goesOn wsX11_fail := gi_sub (fun w h => List.mem_cons_of_mem _ (List.mem_append_left _ (List.mem_append_right _ h))) gd_wsX11_fail
set_option maxRecDepth 20000 in
theorem gX11_goesOn_X11_fail : GoodIn wsX11_goesOn (wsV RX11 200 RX11 yX11_fail wsX11_fail) := goodIn_app (goodIn_r _ [2, 3, 4, 5] (by decide +kernel) (by decide +kernel)) ggX11_goesOn_X11_fail
theorem dX11_goesOn_0 : decode cX11_goesOn 0 = .ok (.aload_n 0, 1) := dc1_42 (by decide +kernel)
theorem dX11_goesOn_1 : decode cX11_goesOn 1 = .ok (.getfield 188, 3) := dcw_180 (by decide +kernel)
theorem dX11_goesOn_4 : decode cX11_goesOn 4 = .ok (.sipush 400, 3) := dcs_17 (n := 400) (by decide +kernel)
theorem dX11_goesOn_7 : decode cX11_goesOn 7 = .ok (.if_icmp .ne 11, 3) := dcs_160 (n := 11) (by decide +kernel)
theorem dX11_goesOn_10 : decode cX11_goesOn 10 = .ok (.aload_n 0, 1) := dc1_42 (by decide +kernel)
theorem dX11_goesOn_11 : decode cX11_goesOn 11 = .ok (.iconst 2, 1) := dc1_5 (by decide +kernel)
theorem dX11_goesOn_12 : decode cX11_goesOn 12 = .ok (.invokevirtual 200, 3) := dcw_182 (by decide +kernel)
theorem dX11_goesOn_15 : decode cX11_goesOn 15 = .ok (.goto 13, 3) := dcs_167 (n := 13) (by decide +kernel)
theorem dX11_goesOn_18 : decode cX11_goesOn 18 = .ok (.aload_n 0, 1) := dc1_42 (by decide +kernel)
theorem dX11_goesOn_19 : decode cX11_goesOn 19 = .ok (.dup, 1) := dc1_89 (by decide +kernel)
theorem dX11_goesOn_20 : decode cX11_goesOn 20 = .ok (.getfield 188, 3) := dcw_180 (by decide +kernel)
theorem dX11_goesOn_23 : decode cX11_goesOn 23 = .ok (.iconst 1, 1) := dc1_4 (by decide +kernel)
theorem dX11_goesOn_24 : decode cX11_goesOn 24 = .ok (.iadd, 1) := dc1_96 (by decide +kernel)
theorem dX11_goesOn_25 : decode cX11_goesOn 25 = .ok (.putfield 188, 3) := dcw_181 (by decide +kernel)
theorem dX11_goesOn_28 : decode cX11_goesOn 28 = .ok (.return_, 1) := dc1_177 (by decide +kernel)
theorem ggX11_must_X11_is : GoodIn wsX11_must wsX11_is := gi_sub (fun w h => List.mem_cons_of_mem _ (List.mem_append_left _ (List.mem_append_right _ (List.mem_append_left _ h)))) gd_wsX11_is
set_option maxRecDepth 20000 in
theorem gX11_must_X11_is : GoodIn wsX11_must (wsV RX11 203 RX11 yX11_is wsX11_is) := goodIn_app (goodIn_r _ [1, 2, 3, 4] (by decide +kernel) (by decide +kernel)) ggX11_must_X11_is
theorem ggX11_must_X11_goesOn : GoodIn wsX11_must wsX11_goesOn := gi_sub (fun w h => List.mem_cons_of_mem _ (List.mem_append_left _ (List.mem_append_right _ (List.mem_append_right _ (List.mem_append_left _ h))))) gd_wsX11_goesOn
set_option maxRecDepth 20000 in
theorem gX11_must_X11_goesOn : GoodIn wsX11_must (wsV RX11 206 RX11 yX11_goesOn wsX11_goesOn) := goodIn_app (goodIn_r _ [5, 6, 7, 4] (by decide +kernel) (by decide +kernel)) ggX11_must_X11_goesOn
theorem ggX11_must_X11_fail : GoodIn wsX11_must wsX11_fail := gi_sub (fun w h => List.mem_cons_of_mem _ (List.mem_append_left _ (List.mem_append_right _ (List.mem_append_right _ (List.mem_append_right _ h))))) gd_wsX11_fail
set_option maxRecDepth 20000 in
theorem gX11_must_X11_fail : GoodIn wsX11_must (wsV RX11 200 RX11 yX11_fail wsX11_fail) := goodIn_app (goodIn_r _ [8, 9, 10, 4] (by decide +kernel) (by decide +kernel)) ggX11_must_X11_fail
theorem dX11_must_0 : decode cX11_must 0 = .ok (.aload_n 0, 1) := dc1_42 (by decide +kernel)
theorem dX11_must_1 : decode cX11_must 1 = .ok (.iload_n 1, 1) := dc1_27 (by decide +kernel)
theorem dX11_must_2 : decode cX11_must 2 = .ok (.invokevirtual 203, 3) := dcw_182 (by decide +kernel)
theorem dX11_must_5 : decode cX11_must 5 = .ok (.ifCond .eq 10, 3) := dcs_153 (n := 10) (by decide +kernel)
theorem dX11_must_8 : decode cX11_must 8 = .ok (.aload_n 0, 1) := dc1_42 (by decide +kernel)
theorem dX11_must_9 : decode cX11_must 9 = .ok (.invokevirtual 206, 3) := dcw_182 (by decide +kernel)
theorem dX11_must_12 : decode cX11_must 12 = .ok (.goto 8, 3) := dcs_167 (n := 8) (by decide +kernel)
theorem dX11_must_15 : decode cX11_must 15 = .ok (.aload_n 0, 1) := dc1_42 (by decide +kernel)
theorem dX11_must_16 : decode cX11_must 16 = .ok (.iconst 1, 1) := dc1_4 (by decide +kernel)
theorem dX11_must_17 : decode cX11_must 17 = .ok (.invokevirtual 200, 3) := dcw_182 (by decide +kernel)
theorem dX11_must_20 : decode cX11_must 20 = .ok (.return_, 1) := dc1_177 (by decide +kernel)
theorem dX11_plain_0 : decode cX11_plain 0 = .ok (.aload_n 0, 1) := dc1_42 (by decide +kernel)
theorem dX11_plain_1 : decode cX11_plain 1 = .ok (.getfield 40, 3) := dcw_180 (by decide +kernel)
theorem dX11_plain_4 : decode cX11_plain 4 = .ok (.iload_n 1, 1) := dc1_27 (by decide +kernel)
theorem dX11_plain_5 : decode cX11_plain 5 = .ok (.iconst 0, 1) := dc1_3 (by decide +kernel)
theorem dX11_plain_6 : decode cX11_plain 6 = .ok (.iastore, 1) := dc1_79 (by decide +kernel)
theorem dX11_plain_7 : decode cX11_plain 7 = .ok (.aload_n 0, 1) := dc1_42 (by decide +kernel)
theorem dX11_plain_8 : decode cX11_plain 8 = .ok (.getfield 49, 3) := dcw_180 (by decide +kernel)
theorem dX11_plain_11 : decode cX11_plain 11 = .ok (.iload_n 1, 1) := dc1_27 (by decide +kernel)
theorem dX11_plain_12 : decode cX11_plain 12 = .ok (.iconst 0, 1) := dc1_3 (by decide +kernel)
theorem dX11_plain_13 : decode cX11_plain 13 = .ok (.iastore, 1) := dc1_79 (by decide +kernel)
theorem dX11_plain_14 : decode cX11_plain 14 = .ok (.aload_n 0, 1) := dc1_42 (by decide +kernel)
theorem dX11_plain_15 : decode cX11_plain 15 = .ok (.getfield 58, 3) := dcw_180 (by decide +kernel)
theorem dX11_plain_18 : decode cX11_plain 18 = .ok (.iload_n 1, 1) := dc1_27 (by decide +kernel)
theorem dX11_plain_19 : decode cX11_plain 19 = .ok (.iconst 0, 1) := dc1_3 (by decide +kernel)
theorem dX11_plain_20 : decode cX11_plain 20 = .ok (.iastore, 1) := dc1_79 (by decide +kernel)
theorem dX11_plain_21 : decode cX11_plain 21 = .ok (.iconst 0, 1) := dc1_3 (by decide +kernel)
theorem dX11_plain_22 : decode cX11_plain 22 = .ok (.istore_n 2, 1) := dc1_61 (by decide +kernel)
theorem dX11_plain_23 : decode cX11_plain 23 = .ok (.iload_n 2, 1) := dc1_28 (by decide +kernel)
theorem dX11_plain_24 : decode cX11_plain 24 = .ok (.iconst 4, 1) := dc1_7 (by decide +kernel)
theorem dX11_plain_25 : decode cX11_plain 25 = .ok (.if_icmp .ge 31, 3) := dcs_162 (n := 31) (by decide +kernel)
theorem dX11_plain_28 : decode cX11_plain 28 = .ok (.aload_n 0, 1) := dc1_42 (by decide +kernel)
theorem dX11_plain_29 : decode cX11_plain 29 = .ok (.getfield 61, 3) := dcw_180 (by decide +kernel)
theorem dX11_plain_32 : decode cX11_plain 32 = .ok (.iconst 4, 1) := dc1_7 (by decide +kernel)
theorem dX11_plain_33 : decode cX11_plain 33 = .ok (.iload_n 1, 1) := dc1_27 (by decide +kernel)
theorem dX11_plain_34 : decode cX11_plain 34 = .ok (.imul, 1) := dc1_104 (by decide +kernel)
theorem dX11_plain_35 : decode cX11_plain 35 = .ok (.iload_n 2, 1) := dc1_28 (by decide +kernel)
theorem dX11_plain_36 : decode cX11_plain 36 = .ok (.iadd, 1) := dc1_96 (by decide +kernel)
theorem dX11_plain_37 : decode cX11_plain 37 = .ok (.iconst 0, 1) := dc1_3 (by decide +kernel)
theorem dX11_plain_38 : decode cX11_plain 38 = .ok (.iastore, 1) := dc1_79 (by decide +kernel)
theorem dX11_plain_39 : decode cX11_plain 39 = .ok (.aload_n 0, 1) := dc1_42 (by decide +kernel)
theorem dX11_plain_40 : decode cX11_plain 40 = .ok (.getfield 64, 3) := dcw_180 (by decide +kernel)
theorem dX11_plain_43 : decode cX11_plain 43 = .ok (.iconst 4, 1) := dc1_7 (by decide +kernel)
theorem dX11_plain_44 : decode cX11_plain 44 = .ok (.iload_n 1, 1) := dc1_27 (by decide +kernel)
theorem dX11_plain_45 : decode cX11_plain 45 = .ok (.imul, 1) := dc1_104 (by decide +kernel)
theorem dX11_plain_46 : decode cX11_plain 46 = .ok (.iload_n 2, 1) := dc1_28 (by decide +kernel)
theorem dX11_plain_47 : decode cX11_plain 47 = .ok (.iadd, 1) := dc1_96 (by decide +kernel)
theorem dX11_plain_48 : decode cX11_plain 48 = .ok (.iconst 0, 1) := dc1_3 (by decide +kernel)
theorem dX11_plain_49 : decode cX11_plain 49 = .ok (.iastore, 1) := dc1_79 (by decide +kernel)
theorem dX11_plain_50 : decode cX11_plain 50 = .ok (.iinc 2 1, 3) := dc_iinc (m := 1) (by decide +kernel)
theorem dX11_plain_53 : decode cX11_plain 53 = .ok (.goto (-30), 3) := dcs_167 (n := 65506) (by decide +kernel)
theorem dX11_plain_56 : decode cX11_plain 56 = .ok (.return_, 1) := dc1_177 (by decide +kernel)
theorem ggX11_roomFor_X11_fail : GoodIn wsX11_roomFor wsX11_fail := gi_sub (fun w h => List.mem_cons_of_mem _ (List.mem_append_left _ (List.mem_append_right _ (List.mem_append_left _ h)))) gd_wsX11_fail
set_option maxRecDepth 20000 in
theorem gX11_roomFor_X11_fail : GoodIn wsX11_roomFor (wsV RX11 200 RX11 yX11_fail wsX11_fail) := goodIn_app (goodIn_r _ [2, 3, 4, 5] (by decide +kernel) (by decide +kernel)) ggX11_roomFor_X11_fail
theorem ggX11_roomFor_X11_goesOn : GoodIn wsX11_roomFor wsX11_goesOn := gi_sub (fun w h => List.mem_cons_of_mem _ (List.mem_append_left _ (List.mem_append_right _ (List.mem_append_right _ h)))) gd_wsX11_goesOn
set_option maxRecDepth 20000 in
theorem gX11_roomFor_X11_goesOn : GoodIn wsX11_roomFor (wsV RX11 206 RX11 yX11_goesOn wsX11_goesOn) := goodIn_app (goodIn_r _ [6, 7, 8, 5] (by decide +kernel) (by decide +kernel)) ggX11_roomFor_X11_goesOn
theorem dX11_roomFor_0 : decode cX11_roomFor 0 = .ok (.iload_n 1, 1) := dc1_27 (by decide +kernel)
theorem dX11_roomFor_1 : decode cX11_roomFor 1 = .ok (.iload_n 2, 1) := dc1_28 (by decide +kernel)
theorem dX11_roomFor_2 : decode cX11_roomFor 2 = .ok (.if_icmp .ne 8, 3) := dcs_160 (n := 8) (by decide +kernel)
theorem dX11_roomFor_5 : decode cX11_roomFor 5 = .ok (.aload_n 0, 1) := dc1_42 (by decide +kernel)
theorem dX11_roomFor_6 : decode cX11_roomFor 6 = .ok (.iconst 2, 1) := dc1_5 (by decide +kernel)
theorem dX11_roomFor_7 : decode cX11_roomFor 7 = .ok (.invokevirtual 200, 3) := dcw_182 (by decide +kernel)
theorem dX11_roomFor_10 : decode cX11_roomFor 10 = .ok (.aload_n 0, 1) := dc1_42 (by decide +kernel)
theorem dX11_roomFor_11 : decode cX11_roomFor 11 = .ok (.getfield 185, 3) := dcw_180 (by decide +kernel)
theorem dX11_roomFor_14 : decode cX11_roomFor 14 = .ok (.ifCond .ne 7, 3) := dcs_154 (n := 7) (by decide +kernel)
theorem dX11_roomFor_17 : decode cX11_roomFor 17 = .ok (.aload_n 0, 1) := dc1_42 (by decide +kernel)
theorem dX11_roomFor_18 : decode cX11_roomFor 18 = .ok (.invokevirtual 206, 3) := dcw_182 (by decide +kernel)
theorem dX11_roomFor_21 : decode cX11_roomFor 21 = .ok (.return_, 1) := dc1_177 (by decide +kernel)
theorem ggX11_bounded_X11_is : GoodIn wsX11_bounded wsX11_is := gi_sub (fun w h => List.mem_cons_of_mem _ (List.mem_append_left _ (List.mem_append_right _ (List.mem_append_left _ h)))) gd_wsX11_is
set_option maxRecDepth 20000 in
theorem gX11_bounded_X11_is : GoodIn wsX11_bounded (wsV RX11 203 RX11 yX11_is wsX11_is) := goodIn_app (goodIn_r _ [4, 5, 6, 7] (by decide +kernel) (by decide +kernel)) ggX11_bounded_X11_is
theorem ggX11_bounded_X11_fail : GoodIn wsX11_bounded wsX11_fail := gi_sub (fun w h => List.mem_cons_of_mem _ (List.mem_append_left _ (List.mem_append_right _ (List.mem_append_right _ (List.mem_append_left _ h))))) gd_wsX11_fail
set_option maxRecDepth 20000 in
theorem gX11_bounded_X11_fail : GoodIn wsX11_bounded (wsV RX11 200 RX11 yX11_fail wsX11_fail) := goodIn_app (goodIn_r _ [8, 9, 10, 7] (by decide +kernel) (by decide +kernel)) ggX11_bounded_X11_fail
theorem ggX11_bounded_X11_wrong : GoodIn wsX11_bounded wsX11_wrong := gi_sub (fun w h => List.mem_cons_of_mem _ (List.mem_append_left _ (List.mem_append_right _ (List.mem_append_right _ (List.mem_append_right _ (List.mem_append_left _ h)))))) gd_wsX11_wrong
set_option maxRecDepth 20000 in
theorem gX11_bounded_X11_wrong : GoodIn wsX11_bounded (wsV RX11 255 RX11 yX11_wrong wsX11_wrong) := goodIn_app (goodIn_r _ [11, 12, 13, 7] (by decide +kernel) (by decide +kernel)) ggX11_bounded_X11_wrong
theorem ggX11_bounded_X11_goesOn : GoodIn wsX11_bounded wsX11_goesOn := gi_sub (fun w h => List.mem_cons_of_mem _ (List.mem_append_left _ (List.mem_append_right _ (List.mem_append_right _ (List.mem_append_right _ (List.mem_append_right _ h)))))) gd_wsX11_goesOn
set_option maxRecDepth 20000 in
theorem gX11_bounded_X11_goesOn : GoodIn wsX11_bounded (wsV RX11 206 RX11 yX11_goesOn wsX11_goesOn) := goodIn_app (goodIn_r _ [14, 15, 16, 7] (by decide +kernel) (by decide +kernel)) ggX11_bounded_X11_goesOn
theorem dX11_bounded_0 : decode cX11_bounded 0 = .ok (.aload_n 0, 1) := dc1_42 (by decide +kernel)
theorem dX11_bounded_1 : decode cX11_bounded 1 = .ok (.getfield 185, 3) := dcw_180 (by decide +kernel)
theorem dX11_bounded_4 : decode cX11_bounded 4 = .ok (.ifCond .gt 11, 3) := dcs_157 (n := 11) (by decide +kernel)
theorem dX11_bounded_7 : decode cX11_bounded 7 = .ok (.aload_n 0, 1) := dc1_42 (by decide +kernel)
theorem dX11_bounded_8 : decode cX11_bounded 8 = .ok (.iconst 2, 1) := dc1_5 (by decide +kernel)
theorem dX11_bounded_9 : decode cX11_bounded 9 = .ok (.invokevirtual 203, 3) := dcw_182 (by decide +kernel)
theorem dX11_bounded_12 : decode cX11_bounded 12 = .ok (.ifCond .ne 10, 3) := dcs_154 (n := 10) (by decide +kernel)
theorem dX11_bounded_15 : decode cX11_bounded 15 = .ok (.aload_n 0, 1) := dc1_42 (by decide +kernel)
theorem dX11_bounded_16 : decode cX11_bounded 16 = .ok (.iconst 1, 1) := dc1_4 (by decide +kernel)
theorem dX11_bounded_17 : decode cX11_bounded 17 = .ok (.invokevirtual 200, 3) := dcw_182 (by decide +kernel)
theorem dX11_bounded_20 : decode cX11_bounded 20 = .ok (.iconst 0, 1) := dc1_3 (by decide +kernel)
theorem dX11_bounded_21 : decode cX11_bounded 21 = .ok (.ireturn, 1) := dc1_172 (by decide +kernel)
theorem dX11_bounded_22 : decode cX11_bounded 22 = .ok (.aload_n 0, 1) := dc1_42 (by decide +kernel)
theorem dX11_bounded_23 : decode cX11_bounded 23 = .ok (.getfield 27, 3) := dcw_180 (by decide +kernel)
theorem dX11_bounded_26 : decode cX11_bounded 26 = .ok (.aload_n 0, 1) := dc1_42 (by decide +kernel)
theorem dX11_bounded_27 : decode cX11_bounded 27 = .ok (.getfield 188, 3) := dcw_180 (by decide +kernel)
theorem dX11_bounded_30 : decode cX11_bounded 30 = .ok (.iaload, 1) := dc1_46 (by decide +kernel)
theorem dX11_bounded_31 : decode cX11_bounded 31 = .ok (.istore_n 2, 1) := dc1_61 (by decide +kernel)
theorem dX11_bounded_32 : decode cX11_bounded 32 = .ok (.iload_n 2, 1) := dc1_28 (by decide +kernel)
theorem dX11_bounded_33 : decode cX11_bounded 33 = .ok (.iload_n 1, 1) := dc1_27 (by decide +kernel)
theorem dX11_bounded_34 : decode cX11_bounded 34 = .ok (.if_icmp .le 12, 3) := dcs_164 (n := 12) (by decide +kernel)
theorem dX11_bounded_37 : decode cX11_bounded 37 = .ok (.aload_n 0, 1) := dc1_42 (by decide +kernel)
theorem dX11_bounded_38 : decode cX11_bounded 38 = .ok (.iconst 5, 1) := dc1_8 (by decide +kernel)
theorem dX11_bounded_39 : decode cX11_bounded 39 = .ok (.aload_n 0, 1) := dc1_42 (by decide +kernel)
theorem dX11_bounded_40 : decode cX11_bounded 40 = .ok (.getfield 188, 3) := dcw_180 (by decide +kernel)
theorem dX11_bounded_43 : decode cX11_bounded 43 = .ok (.invokevirtual 255, 3) := dcw_182 (by decide +kernel)
theorem dX11_bounded_46 : decode cX11_bounded 46 = .ok (.aload_n 0, 1) := dc1_42 (by decide +kernel)
theorem dX11_bounded_47 : decode cX11_bounded 47 = .ok (.invokevirtual 206, 3) := dcw_182 (by decide +kernel)
theorem dX11_bounded_50 : decode cX11_bounded 50 = .ok (.iload_n 2, 1) := dc1_28 (by decide +kernel)
theorem dX11_bounded_51 : decode cX11_bounded 51 = .ok (.ireturn, 1) := dc1_172 (by decide +kernel)
theorem ggX11_tellWave_X11_bounded : GoodIn wsX11_tellWave wsX11_bounded := gi_sub (fun w h => List.mem_cons_of_mem _ (List.mem_append_left _ (List.mem_append_right _ (List.mem_append_left _ h)))) gd_wsX11_bounded
set_option maxRecDepth 20000 in
theorem gX11_tellWave_X11_bounded : GoodIn wsX11_tellWave (wsV RX11 246 RX11 yX11_bounded wsX11_bounded) := goodIn_app (goodIn_r _ [6, 7, 8, 9] (by decide +kernel) (by decide +kernel)) ggX11_tellWave_X11_bounded
theorem ggX11_tellWave_X11_wrong : GoodIn wsX11_tellWave wsX11_wrong := gi_sub (fun w h => List.mem_cons_of_mem _ (List.mem_append_left _ (List.mem_append_right _ (List.mem_append_right _ (List.mem_append_left _ h))))) gd_wsX11_wrong
set_option maxRecDepth 20000 in
theorem gX11_tellWave_X11_wrong : GoodIn wsX11_tellWave (wsV RX11 255 RX11 yX11_wrong wsX11_wrong) := goodIn_app (goodIn_r _ [10, 11, 12, 9] (by decide +kernel) (by decide +kernel)) ggX11_tellWave_X11_wrong
theorem ggX11_tellWave_X11_must : GoodIn wsX11_tellWave wsX11_must := gi_sub (fun w h => List.mem_cons_of_mem _ (List.mem_append_left _ (List.mem_append_right _ (List.mem_append_right _ (List.mem_append_right _ h))))) gd_wsX11_must
set_option maxRecDepth 20000 in
theorem gX11_tellWave_X11_must : GoodIn wsX11_tellWave (wsV RX11 249 RX11 yX11_must wsX11_must) := goodIn_app (goodIn_r _ [13, 14, 15, 9] (by decide +kernel) (by decide +kernel)) ggX11_tellWave_X11_must
theorem dX11_tellWave_0 : decode cX11_tellWave 0 = .ok (.bipush 30, 2) := dcb_16 (n := 30) (by decide +kernel)
theorem dX11_tellWave_2 : decode cX11_tellWave 2 = .ok (.aload_n 0, 1) := dc1_42 (by decide +kernel)
theorem dX11_tellWave_3 : decode cX11_tellWave 3 = .ok (.getfield 218, 3) := dcw_180 (by decide +kernel)
theorem dX11_tellWave_6 : decode cX11_tellWave 6 = .ok (.imul, 1) := dc1_104 (by decide +kernel)
theorem dX11_tellWave_7 : decode cX11_tellWave 7 = .ok (.bipush 6, 2) := dcb_16 (n := 6) (by decide +kernel)
theorem dX11_tellWave_9 : decode cX11_tellWave 9 = .ok (.aload_n 0, 1) := dc1_42 (by decide +kernel)
theorem dX11_tellWave_10 : decode cX11_tellWave 10 = .ok (.getfield 40, 3) := dcw_180 (by decide +kernel)
theorem dX11_tellWave_13 : decode cX11_tellWave 13 = .ok (.aload_n 0, 1) := dc1_42 (by decide +kernel)
theorem dX11_tellWave_14 : decode cX11_tellWave 14 = .ok (.getfield 218, 3) := dcw_180 (by decide +kernel)
theorem dX11_tellWave_17 : decode cX11_tellWave 17 = .ok (.iaload, 1) := dc1_46 (by decide +kernel)
theorem dX11_tellWave_18 : decode cX11_tellWave 18 = .ok (.imul, 1) := dc1_104 (by decide +kernel)
theorem dX11_tellWave_19 : decode cX11_tellWave 19 = .ok (.iadd, 1) := dc1_96 (by decide +kernel)
theorem dX11_tellWave_20 : decode cX11_tellWave 20 = .ok (.istore_n 1, 1) := dc1_60 (by decide +kernel)
theorem dX11_tellWave_21 : decode cX11_tellWave 21 = .ok (.iconst 0, 1) := dc1_3 (by decide +kernel)
theorem dX11_tellWave_22 : decode cX11_tellWave 22 = .ok (.istore_n 2, 1) := dc1_61 (by decide +kernel)
theorem dX11_tellWave_23 : decode cX11_tellWave 23 = .ok (.aload_n 0, 1) := dc1_42 (by decide +kernel)
theorem dX11_tellWave_24 : decode cX11_tellWave 24 = .ok (.getfield 188, 3) := dcw_180 (by decide +kernel)
theorem dX11_tellWave_27 : decode cX11_tellWave 27 = .ok (.istore_n 3, 1) := dc1_62 (by decide +kernel)
theorem dX11_tellWave_28 : decode cX11_tellWave 28 = .ok (.iconst 0, 1) := dc1_3 (by decide +kernel)
theorem dX11_tellWave_29 : decode cX11_tellWave 29 = .ok (.istore 4, 2) := dcu_54 (by decide +kernel)
theorem dX11_tellWave_31 : decode cX11_tellWave 31 = .ok (.iload 4, 2) := dcu_21 (by decide +kernel)
theorem dX11_tellWave_33 : decode cX11_tellWave 33 = .ok (.bipush 6, 2) := dcb_16 (n := 6) (by decide +kernel)
theorem dX11_tellWave_35 : decode cX11_tellWave 35 = .ok (.if_icmp .ge 41, 3) := dcs_162 (n := 41) (by decide +kernel)
theorem dX11_tellWave_38 : decode cX11_tellWave 38 = .ok (.aload_n 0, 1) := dc1_42 (by decide +kernel)
theorem dX11_tellWave_39 : decode cX11_tellWave 39 = .ok (.getfield 188, 3) := dcw_180 (by decide +kernel)
theorem dX11_tellWave_42 : decode cX11_tellWave 42 = .ok (.istore_n 3, 1) := dc1_62 (by decide +kernel)
theorem dX11_tellWave_43 : decode cX11_tellWave 43 = .ok (.aload_n 0, 1) := dc1_42 (by decide +kernel)
theorem dX11_tellWave_44 : decode cX11_tellWave 44 = .ok (.getfield 43, 3) := dcw_180 (by decide +kernel)
theorem dX11_tellWave_47 : decode cX11_tellWave 47 = .ok (.iload_n 1, 1) := dc1_27 (by decide +kernel)
theorem dX11_tellWave_48 : decode cX11_tellWave 48 = .ok (.iload 4, 2) := dcu_21 (by decide +kernel)
theorem dX11_tellWave_50 : decode cX11_tellWave 50 = .ok (.iadd, 1) := dc1_96 (by decide +kernel)
theorem dX11_tellWave_51 : decode cX11_tellWave 51 = .ok (.aload_n 0, 1) := dc1_42 (by decide +kernel)
theorem dX11_tellWave_52 : decode cX11_tellWave 52 = .ok (.bipush 9, 2) := dcb_16 (n := 9) (by decide +kernel)
theorem dX11_tellWave_54 : decode cX11_tellWave 54 = .ok (.invokevirtual 246, 3) := dcw_182 (by decide +kernel)
theorem dX11_tellWave_57 : decode cX11_tellWave 57 = .ok (.iastore, 1) := dc1_79 (by decide +kernel)
theorem dX11_tellWave_58 : decode cX11_tellWave 58 = .ok (.iload_n 2, 1) := dc1_28 (by decide +kernel)
theorem dX11_tellWave_59 : decode cX11_tellWave 59 = .ok (.aload_n 0, 1) := dc1_42 (by decide +kernel)
theorem dX11_tellWave_60 : decode cX11_tellWave 60 = .ok (.getfield 43, 3) := dcw_180 (by decide +kernel)
theorem dX11_tellWave_63 : decode cX11_tellWave 63 = .ok (.iload_n 1, 1) := dc1_27 (by decide +kernel)
theorem dX11_tellWave_64 : decode cX11_tellWave 64 = .ok (.iload 4, 2) := dcu_21 (by decide +kernel)
theorem dX11_tellWave_66 : decode cX11_tellWave 66 = .ok (.iadd, 1) := dc1_96 (by decide +kernel)
theorem dX11_tellWave_67 : decode cX11_tellWave 67 = .ok (.iaload, 1) := dc1_46 (by decide +kernel)
theorem dX11_tellWave_68 : decode cX11_tellWave 68 = .ok (.iadd, 1) := dc1_96 (by decide +kernel)
theorem dX11_tellWave_69 : decode cX11_tellWave 69 = .ok (.istore_n 2, 1) := dc1_61 (by decide +kernel)
theorem dX11_tellWave_70 : decode cX11_tellWave 70 = .ok (.iinc 4 1, 3) := dc_iinc (m := 1) (by decide +kernel)
theorem dX11_tellWave_73 : decode cX11_tellWave 73 = .ok (.goto (-42), 3) := dcs_167 (n := 65494) (by decide +kernel)
theorem dX11_tellWave_76 : decode cX11_tellWave 76 = .ok (.aload_n 0, 1) := dc1_42 (by decide +kernel)
theorem dX11_tellWave_77 : decode cX11_tellWave 77 = .ok (.getfield 185, 3) := dcw_180 (by decide +kernel)
theorem dX11_tellWave_80 : decode cX11_tellWave 80 = .ok (.ifCond .ne 13, 3) := dcs_154 (n := 13) (by decide +kernel)
theorem dX11_tellWave_83 : decode cX11_tellWave 83 = .ok (.iload_n 2, 1) := dc1_28 (by decide +kernel)
theorem dX11_tellWave_84 : decode cX11_tellWave 84 = .ok (.ifCond .ne 9, 3) := dcs_154 (n := 9) (by decide +kernel)
theorem dX11_tellWave_87 : decode cX11_tellWave 87 = .ok (.aload_n 0, 1) := dc1_42 (by decide +kernel)
theorem dX11_tellWave_88 : decode cX11_tellWave 88 = .ok (.iconst 5, 1) := dc1_8 (by decide +kernel)
theorem dX11_tellWave_89 : decode cX11_tellWave 89 = .ok (.iload_n 3, 1) := dc1_29 (by decide +kernel)
theorem dX11_tellWave_90 : decode cX11_tellWave 90 = .ok (.invokevirtual 255, 3) := dcw_182 (by decide +kernel)
theorem dX11_tellWave_93 : decode cX11_tellWave 93 = .ok (.aload_n 0, 1) := dc1_42 (by decide +kernel)
theorem dX11_tellWave_94 : decode cX11_tellWave 94 = .ok (.iconst 4, 1) := dc1_7 (by decide +kernel)
theorem dX11_tellWave_95 : decode cX11_tellWave 95 = .ok (.invokevirtual 249, 3) := dcw_182 (by decide +kernel)
theorem dX11_tellWave_98 : decode cX11_tellWave 98 = .ok (.aload_n 0, 1) := dc1_42 (by decide +kernel)
theorem dX11_tellWave_99 : decode cX11_tellWave 99 = .ok (.getfield 40, 3) := dcw_180 (by decide +kernel)
theorem dX11_tellWave_102 : decode cX11_tellWave 102 = .ok (.aload_n 0, 1) := dc1_42 (by decide +kernel)
theorem dX11_tellWave_103 : decode cX11_tellWave 103 = .ok (.getfield 218, 3) := dcw_180 (by decide +kernel)
theorem dX11_tellWave_106 : decode cX11_tellWave 106 = .ok (.dup2, 1) := dc1_92 (by decide +kernel)
theorem dX11_tellWave_107 : decode cX11_tellWave 107 = .ok (.iaload, 1) := dc1_46 (by decide +kernel)
theorem dX11_tellWave_108 : decode cX11_tellWave 108 = .ok (.iconst 1, 1) := dc1_4 (by decide +kernel)
theorem dX11_tellWave_109 : decode cX11_tellWave 109 = .ok (.iadd, 1) := dc1_96 (by decide +kernel)
theorem dX11_tellWave_110 : decode cX11_tellWave 110 = .ok (.iastore, 1) := dc1_79 (by decide +kernel)
theorem dX11_tellWave_111 : decode cX11_tellWave 111 = .ok (.return_, 1) := dc1_177 (by decide +kernel)
theorem ggX11_tellParty_X11_must : GoodIn wsX11_tellParty wsX11_must := gi_sub (fun w h => List.mem_cons_of_mem _ (List.mem_append_left _ (List.mem_append_right _ (List.mem_append_left _ h)))) gd_wsX11_must
set_option maxRecDepth 20000 in
theorem gX11_tellParty_X11_must : GoodIn wsX11_tellParty (wsV RX11 249 RX11 yX11_must wsX11_must) := goodIn_app (goodIn_r _ [9, 10, 11, 12] (by decide +kernel) (by decide +kernel)) ggX11_tellParty_X11_must
theorem ggX11_tellParty_X11_wrong : GoodIn wsX11_tellParty wsX11_wrong := gi_sub (fun w h => List.mem_cons_of_mem _ (List.mem_append_left _ (List.mem_append_right _ (List.mem_append_right _ (List.mem_append_left _ h))))) gd_wsX11_wrong
set_option maxRecDepth 20000 in
theorem gX11_tellParty_X11_wrong : GoodIn wsX11_tellParty (wsV RX11 255 RX11 yX11_wrong wsX11_wrong) := goodIn_app (goodIn_r _ [13, 14, 15, 12] (by decide +kernel) (by decide +kernel)) ggX11_tellParty_X11_wrong
theorem ggX11_tellParty_X11_bounded : GoodIn wsX11_tellParty wsX11_bounded := gi_sub (fun w h => List.mem_cons_of_mem _ (List.mem_append_left _ (List.mem_append_right _ (List.mem_append_right _ (List.mem_append_right _ h))))) gd_wsX11_bounded
set_option maxRecDepth 20000 in
theorem gX11_tellParty_X11_bounded : GoodIn wsX11_tellParty (wsV RX11 246 RX11 yX11_bounded wsX11_bounded) := goodIn_app (goodIn_r _ [16, 17, 18, 12] (by decide +kernel) (by decide +kernel)) ggX11_tellParty_X11_bounded
theorem dX11_tellParty_0 : decode cX11_tellParty 0 = .ok (.bipush 6, 2) := dcb_16 (n := 6) (by decide +kernel)
theorem dX11_tellParty_2 : decode cX11_tellParty 2 = .ok (.aload_n 0, 1) := dc1_42 (by decide +kernel)
theorem dX11_tellParty_3 : decode cX11_tellParty 3 = .ok (.getfield 218, 3) := dcw_180 (by decide +kernel)
theorem dX11_tellParty_6 : decode cX11_tellParty 6 = .ok (.imul, 1) := dc1_104 (by decide +kernel)
theorem dX11_tellParty_7 : decode cX11_tellParty 7 = .ok (.aload_n 0, 1) := dc1_42 (by decide +kernel)
theorem dX11_tellParty_8 : decode cX11_tellParty 8 = .ok (.getfield 49, 3) := dcw_180 (by decide +kernel)
theorem dX11_tellParty_11 : decode cX11_tellParty 11 = .ok (.aload_n 0, 1) := dc1_42 (by decide +kernel)
theorem dX11_tellParty_12 : decode cX11_tellParty 12 = .ok (.getfield 218, 3) := dcw_180 (by decide +kernel)
theorem dX11_tellParty_15 : decode cX11_tellParty 15 = .ok (.iaload, 1) := dc1_46 (by decide +kernel)
theorem dX11_tellParty_16 : decode cX11_tellParty 16 = .ok (.iadd, 1) := dc1_96 (by decide +kernel)
theorem dX11_tellParty_17 : decode cX11_tellParty 17 = .ok (.istore_n 1, 1) := dc1_60 (by decide +kernel)
theorem dX11_tellParty_18 : decode cX11_tellParty 18 = .ok (.aload_n 0, 1) := dc1_42 (by decide +kernel)
theorem dX11_tellParty_19 : decode cX11_tellParty 19 = .ok (.getfield 188, 3) := dcw_180 (by decide +kernel)
theorem dX11_tellParty_22 : decode cX11_tellParty 22 = .ok (.istore_n 2, 1) := dc1_61 (by decide +kernel)
theorem dX11_tellParty_23 : decode cX11_tellParty 23 = .ok (.aload_n 0, 1) := dc1_42 (by decide +kernel)
theorem dX11_tellParty_24 : decode cX11_tellParty 24 = .ok (.iconst 1, 1) := dc1_4 (by decide +kernel)
theorem dX11_tellParty_25 : decode cX11_tellParty 25 = .ok (.invokevirtual 249, 3) := dcw_182 (by decide +kernel)
theorem dX11_tellParty_28 : decode cX11_tellParty 28 = .ok (.iconst 0, 1) := dc1_3 (by decide +kernel)
theorem dX11_tellParty_29 : decode cX11_tellParty 29 = .ok (.istore_n 3, 1) := dc1_62 (by decide +kernel)
theorem dX11_tellParty_30 : decode cX11_tellParty 30 = .ok (.iload_n 3, 1) := dc1_29 (by decide +kernel)
theorem dX11_tellParty_31 : decode cX11_tellParty 31 = .ok (.aload_n 0, 1) := dc1_42 (by decide +kernel)
theorem dX11_tellParty_32 : decode cX11_tellParty 32 = .ok (.getfield 49, 3) := dcw_180 (by decide +kernel)
theorem dX11_tellParty_35 : decode cX11_tellParty 35 = .ok (.aload_n 0, 1) := dc1_42 (by decide +kernel)
theorem dX11_tellParty_36 : decode cX11_tellParty 36 = .ok (.getfield 218, 3) := dcw_180 (by decide +kernel)
theorem dX11_tellParty_39 : decode cX11_tellParty 39 = .ok (.iaload, 1) := dc1_46 (by decide +kernel)
theorem dX11_tellParty_40 : decode cX11_tellParty 40 = .ok (.if_icmp .ge 38, 3) := dcs_162 (n := 38) (by decide +kernel)
theorem dX11_tellParty_43 : decode cX11_tellParty 43 = .ok (.aload_n 0, 1) := dc1_42 (by decide +kernel)
theorem dX11_tellParty_44 : decode cX11_tellParty 44 = .ok (.getfield 185, 3) := dcw_180 (by decide +kernel)
theorem dX11_tellParty_47 : decode cX11_tellParty 47 = .ok (.ifCond .ne 31, 3) := dcs_154 (n := 31) (by decide +kernel)
theorem dX11_tellParty_50 : decode cX11_tellParty 50 = .ok (.aload_n 0, 1) := dc1_42 (by decide +kernel)
theorem dX11_tellParty_51 : decode cX11_tellParty 51 = .ok (.getfield 46, 3) := dcw_180 (by decide +kernel)
theorem dX11_tellParty_54 : decode cX11_tellParty 54 = .ok (.iload_n 3, 1) := dc1_29 (by decide +kernel)
theorem dX11_tellParty_55 : decode cX11_tellParty 55 = .ok (.laload, 1) := dc1_47 (by decide +kernel)
theorem dX11_tellParty_56 : decode cX11_tellParty 56 = .ok (.aload_n 0, 1) := dc1_42 (by decide +kernel)
theorem dX11_tellParty_57 : decode cX11_tellParty 57 = .ok (.getfield 30, 3) := dcw_180 (by decide +kernel)
theorem dX11_tellParty_60 : decode cX11_tellParty 60 = .ok (.iload_n 2, 1) := dc1_28 (by decide +kernel)
theorem dX11_tellParty_61 : decode cX11_tellParty 61 = .ok (.laload, 1) := dc1_47 (by decide +kernel)
theorem dX11_tellParty_62 : decode cX11_tellParty 62 = .ok (.lcmp, 1) := dc1_148 (by decide +kernel)
theorem dX11_tellParty_63 : decode cX11_tellParty 63 = .ok (.ifCond .ne 9, 3) := dcs_154 (n := 9) (by decide +kernel)
theorem dX11_tellParty_66 : decode cX11_tellParty 66 = .ok (.aload_n 0, 1) := dc1_42 (by decide +kernel)
theorem dX11_tellParty_67 : decode cX11_tellParty 67 = .ok (.iconst 3, 1) := dc1_6 (by decide +kernel)
theorem dX11_tellParty_68 : decode cX11_tellParty 68 = .ok (.iload_n 2, 1) := dc1_28 (by decide +kernel)
theorem dX11_tellParty_69 : decode cX11_tellParty 69 = .ok (.invokevirtual 255, 3) := dcw_182 (by decide +kernel)
theorem dX11_tellParty_72 : decode cX11_tellParty 72 = .ok (.iinc 3 1, 3) := dc_iinc (m := 1) (by decide +kernel)
theorem dX11_tellParty_75 : decode cX11_tellParty 75 = .ok (.goto (-45), 3) := dcs_167 (n := 65491) (by decide +kernel)
theorem dX11_tellParty_78 : decode cX11_tellParty 78 = .ok (.aload_n 0, 1) := dc1_42 (by decide +kernel)
theorem dX11_tellParty_79 : decode cX11_tellParty 79 = .ok (.getfield 52, 3) := dcw_180 (by decide +kernel)
theorem dX11_tellParty_82 : decode cX11_tellParty 82 = .ok (.iload_n 1, 1) := dc1_27 (by decide +kernel)
theorem dX11_tellParty_83 : decode cX11_tellParty 83 = .ok (.aload_n 0, 1) := dc1_42 (by decide +kernel)
theorem dX11_tellParty_84 : decode cX11_tellParty 84 = .ok (.bipush 9, 2) := dcb_16 (n := 9) (by decide +kernel)
theorem dX11_tellParty_86 : decode cX11_tellParty 86 = .ok (.invokevirtual 246, 3) := dcw_182 (by decide +kernel)
theorem dX11_tellParty_89 : decode cX11_tellParty 89 = .ok (.iastore, 1) := dc1_79 (by decide +kernel)
theorem dX11_tellParty_90 : decode cX11_tellParty 90 = .ok (.aload_n 0, 1) := dc1_42 (by decide +kernel)
theorem dX11_tellParty_91 : decode cX11_tellParty 91 = .ok (.getfield 55, 3) := dcw_180 (by decide +kernel)
theorem dX11_tellParty_94 : decode cX11_tellParty 94 = .ok (.iload_n 1, 1) := dc1_27 (by decide +kernel)
theorem dX11_tellParty_95 : decode cX11_tellParty 95 = .ok (.aload_n 0, 1) := dc1_42 (by decide +kernel)
theorem dX11_tellParty_96 : decode cX11_tellParty 96 = .ok (.bipush 9, 2) := dcb_16 (n := 9) (by decide +kernel)
theorem dX11_tellParty_98 : decode cX11_tellParty 98 = .ok (.invokevirtual 246, 3) := dcw_182 (by decide +kernel)
theorem dX11_tellParty_101 : decode cX11_tellParty 101 = .ok (.iastore, 1) := dc1_79 (by decide +kernel)
theorem dX11_tellParty_102 : decode cX11_tellParty 102 = .ok (.aload_n 0, 1) := dc1_42 (by decide +kernel)
theorem dX11_tellParty_103 : decode cX11_tellParty 103 = .ok (.iconst 4, 1) := dc1_7 (by decide +kernel)
theorem dX11_tellParty_104 : decode cX11_tellParty 104 = .ok (.invokevirtual 249, 3) := dcw_182 (by decide +kernel)
theorem dX11_tellParty_107 : decode cX11_tellParty 107 = .ok (.aload_n 0, 1) := dc1_42 (by decide +kernel)
theorem dX11_tellParty_108 : decode cX11_tellParty 108 = .ok (.getfield 185, 3) := dcw_180 (by decide +kernel)
theorem dX11_tellParty_111 : decode cX11_tellParty 111 = .ok (.ifCond .le 4, 3) := dcs_158 (n := 4) (by decide +kernel)
theorem dX11_tellParty_114 : decode cX11_tellParty 114 = .ok (.return_, 1) := dc1_177 (by decide +kernel)
theorem dX11_tellParty_115 : decode cX11_tellParty 115 = .ok (.aload_n 0, 1) := dc1_42 (by decide +kernel)
theorem dX11_tellParty_116 : decode cX11_tellParty 116 = .ok (.getfield 46, 3) := dcw_180 (by decide +kernel)
theorem dX11_tellParty_119 : decode cX11_tellParty 119 = .ok (.aload_n 0, 1) := dc1_42 (by decide +kernel)
theorem dX11_tellParty_120 : decode cX11_tellParty 120 = .ok (.getfield 49, 3) := dcw_180 (by decide +kernel)
theorem dX11_tellParty_123 : decode cX11_tellParty 123 = .ok (.aload_n 0, 1) := dc1_42 (by decide +kernel)
theorem dX11_tellParty_124 : decode cX11_tellParty 124 = .ok (.getfield 218, 3) := dcw_180 (by decide +kernel)
theorem dX11_tellParty_127 : decode cX11_tellParty 127 = .ok (.iaload, 1) := dc1_46 (by decide +kernel)
theorem dX11_tellParty_128 : decode cX11_tellParty 128 = .ok (.aload_n 0, 1) := dc1_42 (by decide +kernel)
theorem dX11_tellParty_129 : decode cX11_tellParty 129 = .ok (.getfield 30, 3) := dcw_180 (by decide +kernel)
theorem dX11_tellParty_132 : decode cX11_tellParty 132 = .ok (.iload_n 2, 1) := dc1_28 (by decide +kernel)
theorem dX11_tellParty_133 : decode cX11_tellParty 133 = .ok (.laload, 1) := dc1_47 (by decide +kernel)
theorem dX11_tellParty_134 : decode cX11_tellParty 134 = .ok (.lastore, 1) := dc1_80 (by decide +kernel)
theorem dX11_tellParty_135 : decode cX11_tellParty 135 = .ok (.aload_n 0, 1) := dc1_42 (by decide +kernel)
theorem dX11_tellParty_136 : decode cX11_tellParty 136 = .ok (.getfield 49, 3) := dcw_180 (by decide +kernel)
theorem dX11_tellParty_139 : decode cX11_tellParty 139 = .ok (.aload_n 0, 1) := dc1_42 (by decide +kernel)
theorem dX11_tellParty_140 : decode cX11_tellParty 140 = .ok (.getfield 218, 3) := dcw_180 (by decide +kernel)
theorem dX11_tellParty_143 : decode cX11_tellParty 143 = .ok (.dup2, 1) := dc1_92 (by decide +kernel)
theorem dX11_tellParty_144 : decode cX11_tellParty 144 = .ok (.iaload, 1) := dc1_46 (by decide +kernel)
theorem dX11_tellParty_145 : decode cX11_tellParty 145 = .ok (.iconst 1, 1) := dc1_4 (by decide +kernel)
theorem dX11_tellParty_146 : decode cX11_tellParty 146 = .ok (.iadd, 1) := dc1_96 (by decide +kernel)
theorem dX11_tellParty_147 : decode cX11_tellParty 147 = .ok (.iastore, 1) := dc1_79 (by decide +kernel)
theorem dX11_tellParty_148 : decode cX11_tellParty 148 = .ok (.return_, 1) := dc1_177 (by decide +kernel)
theorem LX11_is_185 : Cond.fieldLink RX11 185 "GuessFerryModel" "fault" "I" ∈ wsX11_is := (List.mem_cons_of_mem _ (List.mem_append_left _ (List.mem_of_getElem? (i := 0) rfl)))
theorem LX11_is_188 : Cond.fieldLink RX11 188 "GuessFerryModel" "t" "I" ∈ wsX11_is := (List.mem_cons_of_mem _ (List.mem_append_left _ (List.mem_of_getElem? (i := 2) rfl)))
theorem LX11_is_20 : Cond.fieldLink RX11 20 "GuessFerryModel" "tKind" "[I" ∈ wsX11_is := (List.mem_cons_of_mem _ (List.mem_append_left _ (List.mem_of_getElem? (i := 1) rfl)))
theorem inX11_is_X11 : ∀ w ∈ u_ws RX11 TX11 58, w ∈ wsX11_is := fun _ h => List.mem_cons_of_mem _ (List.mem_append_right _ h)
set_option maxHeartbeats 4000000 in
set_option maxRecDepth 100000 in
theorem br_is {l : Launch} {dC : Nat → ClassId} {dI : Nat → Nat → Nat} {cB cI cJ cZ cS : ClassId} {h : Nat} {a : Nat → Nat} {as : List Value} {r : Int32} {s' : RS} (s : RS) (x1 : Int32) (hB : r_is s x1 = some (r, s')) : BlkI l yX11_is wsX11_is ({ frames := 0, cells := 0, slots := 0, locals := 0 }) cX11_is 2 (some .boolean) (dC, dI) (tysA cB cI cJ cZ cS) as 0 (mwS cB cI cJ cZ h a s) [(0, .ref h), (1, .int x1)] [] (fun x u => x = r ∧ u = (mwS cB cI cJ cZ h a s')) := by
  intro p e s0 m below meth c A E H locs ls hP hD hS hl
  obtain ⟨C, hr, hlocks, hA, hK, hN⟩ := id E
  obtain ⟨hx, hb, hml, hown, hts⟩ := id C
  unfold r_is at hB
  refine lv_aload_n hx hb dX11_is_0 rfl (lv_at hl 0 rfl) ?_
  refine q_get (v := .int (s.v 13)) C inX11_is_X11 hK hP 0 rfl rfl 13 (by decide) rfl LX11_is_185 rfl dX11_is_1 ?_
  refine lv_if_ne (tgt := 24) hx hb dX11_is_4 (by decide) (fun c1 => ?_) (fun c1 => ?_)
  · have hB := if_n hB c1
    refine lv_iconst (v := 0) hx hb dX11_is_24 (by decide) ?_
    exact q_zret C hr hlocks (Or.inl rfl) hK hP hD hS (Nat.le_of_ble_eq_true rfl) (Nat.le_of_ble_eq_true rfl) dX11_is_25 (by cases hB; exact ⟨rfl, rfl⟩)
  · have hB := if_p hB c1
    refine lv_aload_n hx hb dX11_is_7 rfl (lv_at hl 0 rfl) ?_
    refine q_get (v := .ref (a 5)) C inX11_is_X11 hK hP 0 rfl rfl 5 (by decide) rfl LX11_is_20 rfl dX11_is_8 ?_
    refine lv_aload_n hx hb dX11_is_11 rfl (lv_at hl 0 rfl) ?_
    refine q_get (v := .int (s.v 11)) C inX11_is_X11 hK hP 0 rfl rfl 11 (by decide) rfl LX11_is_188 rfl dX11_is_12 ?_
    obtain ⟨g2, hB⟩ := guard_inv hB
    refine q_iald (x := (s.f 5 (Int32.toNatClampNeg (s.v 11)))) C hK hP 3 1 rfl rfl (vpb_in g2) dX11_is_15 rfl ?_
    refine lv_iload_n hx hb dX11_is_16 rfl (lv_at hl 1 rfl) ?_
    refine lv_icmp_ne (tgt := 24) hx hb dX11_is_17 (by decide) (fun c3 => ?_) (fun c3 => ?_)
    · have hB := if_n hB c3
      refine lv_iconst (v := 0) hx hb dX11_is_24 (by decide) ?_
      exact q_zret C hr hlocks (Or.inl rfl) hK hP hD hS (Nat.le_of_ble_eq_true rfl) (Nat.le_of_ble_eq_true rfl) dX11_is_25 (by cases hB; exact ⟨rfl, rfl⟩)
    · have hB := if_p hB c3
      refine lv_iconst (v := 1) hx hb dX11_is_20 (by decide) ?_
      refine lv_goto (tgt := 25) hx hb dX11_is_21 (by decide) ?_
      exact q_zret C hr hlocks (Or.inr rfl) hK hP hD hS (Nat.le_of_ble_eq_true rfl) (Nat.le_of_ble_eq_true rfl) dX11_is_25 (by cases hB; exact ⟨rfl, rfl⟩)
theorem cr_is {l : Launch} {dC : Nat → ClassId} {dI : Nat → Nat → Nat} {cB cI cJ cZ cS : ClassId} {h : Nat} {a : Nat → Nat} {r : Int32} {s' : RS} {s : RS} {x1 : Int32} (hB : r_is s x1 = some (r, s')) : CI l yX11_is wsX11_is ({ frames := 0, cells := 0, slots := 0, locals := 0 }) (dC, dI) (tysA cB cI cJ cZ cS) (mwS cB cI cJ cZ h a s) [.ref h, .int x1] (fun x u => x = r ∧ u = (mwS cB cI cJ cZ h a s')) :=
  CI_of (cc := cX11_is) (maxL := 2) (ret := (some .boolean)) (by decide) rfl (Nat.le_of_ble_eq_true rfl) (br_is _ _ hB)
theorem LX11_fail_185 : Cond.fieldLink RX11 185 "GuessFerryModel" "fault" "I" ∈ wsX11_fail := (List.mem_cons_of_mem _ (List.mem_append_left _ (List.mem_of_getElem? (i := 0) rfl)))
theorem LX11_fail_188 : Cond.fieldLink RX11 188 "GuessFerryModel" "t" "I" ∈ wsX11_fail := (List.mem_cons_of_mem _ (List.mem_append_left _ (List.mem_of_getElem? (i := 2) rfl)))
theorem LX11_fail_191 : Cond.fieldLink RX11 191 "GuessFerryModel" "faultPlace" "I" ∈ wsX11_fail := (List.mem_cons_of_mem _ (List.mem_append_left _ (List.mem_of_getElem? (i := 3) rfl)))
theorem LX11_fail_24 : Cond.fieldLink RX11 24 "GuessFerryModel" "tPlace" "[I" ∈ wsX11_fail := (List.mem_cons_of_mem _ (List.mem_append_left _ (List.mem_of_getElem? (i := 1) rfl)))
theorem inX11_fail_X11 : ∀ w ∈ u_ws RX11 TX11 58, w ∈ wsX11_fail := fun _ h => List.mem_cons_of_mem _ (List.mem_append_right _ h)
set_option maxHeartbeats 4000000 in
set_option maxRecDepth 100000 in
theorem br_fail {l : Launch} {dC : Nat → ClassId} {dI : Nat → Nat → Nat} {cB cI cJ cZ cS : ClassId} {h : Nat} {a : Nat → Nat} {as : List Value} {s' : RS} (s : RS) (x1 : Int32) (hB : r_fail s x1 = some s') : BlkV l yX11_fail wsX11_fail ({ frames := 0, cells := 0, slots := 0, locals := 0 }) cX11_fail 2 none (dC, dI) (tysA cB cI cJ cZ cS) as 0 (mwS cB cI cJ cZ h a s) [(0, .ref h), (1, .int x1)] [] (fun u => u = (mwS cB cI cJ cZ h a s')) := by
  intro p e s0 m below meth c A E H locs ls hP hD hS hl
  obtain ⟨C, hr, hlocks, hA, hK, hN⟩ := id E
  obtain ⟨hx, hb, hml, hown, hts⟩ := id C
  unfold r_fail at hB
  refine lv_aload_n hx hb dX11_fail_0 rfl (lv_at hl 0 rfl) ?_
  refine q_get (v := .int (s.v 13)) C inX11_fail_X11 hK hP 0 rfl rfl 13 (by decide) rfl LX11_fail_185 rfl dX11_fail_1 ?_
  refine lv_if_le (tgt := 8) hx hb dX11_fail_4 (by decide) (fun c1 => ?_) (fun c1 => ?_)
  · have hB := if_p hB c1
    refine lv_aload_n hx hb dX11_fail_8 rfl (lv_at hl 0 rfl) ?_
    refine lv_iload_n hx hb dX11_fail_9 rfl (lv_at hl 1 rfl) ?_
    obtain ⟨s2, hs3, hB⟩ := letS_inv hB
    refine q_put (ty := .int) (w2 := (mwS cB cI cJ cZ h a s2)) tyX11 tyX11_ok nmX11 C inX11_fail_X11 hK hP hD hS 0 rfl rfl 13 (by decide) rfl LX11_fail_185 rfl (by decide +kernel) (rfl) rfl (Nat.le_of_ble_eq_true rfl) dX11_fail_10 (mwS_v13 hs3) (fun H locs hP hD hS => ?_)
    refine lv_aload_n hx hb dX11_fail_13 rfl (lv_at hl 0 rfl) ?_
    refine lv_aload_n hx hb dX11_fail_14 rfl (lv_at hl 0 rfl) ?_
    refine q_get (v := .ref (a 6)) C inX11_fail_X11 hK hP 0 rfl rfl 6 (by decide) rfl LX11_fail_24 rfl dX11_fail_15 ?_
    refine lv_aload_n hx hb dX11_fail_18 rfl (lv_at hl 0 rfl) ?_
    refine q_get (v := .int (s2.v 11)) C inX11_fail_X11 hK hP 0 rfl rfl 11 (by decide) rfl LX11_fail_188 rfl dX11_fail_19 ?_
    obtain ⟨g4, hB⟩ := guard_inv hB
    refine q_iald (x := (s2.f 6 (Int32.toNatClampNeg (s2.v 11)))) C hK hP 4 1 rfl rfl (vpb_in g4) dX11_fail_22 rfl ?_
    obtain ⟨s5, hs6, hB⟩ := letS_inv hB
    refine q_put (ty := .int) (w2 := (mwS cB cI cJ cZ h a s5)) tyX11 tyX11_ok nmX11 C inX11_fail_X11 hK hP hD hS 0 rfl rfl 14 (by decide) rfl LX11_fail_191 rfl (by decide +kernel) (rfl) rfl (Nat.le_of_ble_eq_true rfl) dX11_fail_23 (mwS_v14 hs6) (fun H locs hP hD hS => ?_)
    exact q_vret C hr hlocks hK hP hD hS (Nat.le_of_ble_eq_true rfl) (Nat.le_of_ble_eq_true rfl) dX11_fail_26 (by cases hB; rfl)
  · have hB := if_n hB c1
    exact q_vret C hr hlocks hK hP hD hS (Nat.le_of_ble_eq_true rfl) (Nat.le_of_ble_eq_true rfl) dX11_fail_7 (by cases hB; rfl)
theorem cr_fail {l : Launch} {dC : Nat → ClassId} {dI : Nat → Nat → Nat} {cB cI cJ cZ cS : ClassId} {h : Nat} {a : Nat → Nat} {s' : RS} {s : RS} {x1 : Int32} (hB : r_fail s x1 = some s') : CV l yX11_fail wsX11_fail ({ frames := 0, cells := 0, slots := 0, locals := 0 }) (dC, dI) (tysA cB cI cJ cZ cS) (mwS cB cI cJ cZ h a s) [.ref h, .int x1] (fun u => u = (mwS cB cI cJ cZ h a s')) :=
  CV_of (cc := cX11_fail) (maxL := 2) (ret := none) (by decide) rfl (Nat.le_of_ble_eq_true rfl) (br_fail _ _ hB)
theorem LX11_wrong_185 : Cond.fieldLink RX11 185 "GuessFerryModel" "fault" "I" ∈ wsX11_wrong := (List.mem_cons_of_mem _ (List.mem_append_left _ (List.mem_of_getElem? (i := 1) rfl)))
theorem LX11_wrong_194 : Cond.fieldLink RX11 194 "GuessFerryModel" "worst" "I" ∈ wsX11_wrong := (List.mem_cons_of_mem _ (List.mem_append_left _ (List.mem_of_getElem? (i := 2) rfl)))
theorem LX11_wrong_197 : Cond.fieldLink RX11 197 "GuessFerryModel" "worstPlace" "I" ∈ wsX11_wrong := (List.mem_cons_of_mem _ (List.mem_append_left _ (List.mem_of_getElem? (i := 3) rfl)))
theorem LX11_wrong_24 : Cond.fieldLink RX11 24 "GuessFerryModel" "tPlace" "[I" ∈ wsX11_wrong := (List.mem_cons_of_mem _ (List.mem_append_left _ (List.mem_of_getElem? (i := 0) rfl)))
theorem inX11_wrong_X11 : ∀ w ∈ u_ws RX11 TX11 58, w ∈ wsX11_wrong := fun _ h => List.mem_cons_of_mem _ (List.mem_append_right _ h)
set_option maxHeartbeats 4000000 in
set_option maxRecDepth 100000 in
theorem br_wrong_46 {l : Launch} {dC : Nat → ClassId} {dI : Nat → Nat → Nat} {cB cI cJ cZ cS : ClassId} {h : Nat} {a : Nat → Nat} {as : List Value} {s' : RS} (s : RS) (x1 : Int32) (x3 : Int32) (hB : r_wrong_46 s x1 x3 = some s') : BlkV l yX11_wrong wsX11_wrong ({ frames := 0, cells := 0, slots := 0, locals := 0 }) cX11_wrong 4 none (dC, dI) (tysA cB cI cJ cZ cS) as 46 (mwS cB cI cJ cZ h a s) [(0, .ref h), (1, .int x1), (3, .int x3)] [] (fun u => u = (mwS cB cI cJ cZ h a s')) := by
  intro p e s0 m below meth c A E H locs ls hP hD hS hl
  obtain ⟨C, hr, hlocks, hA, hK, hN⟩ := id E
  obtain ⟨hx, hb, hml, hown, hts⟩ := id C
  unfold r_wrong_46 at hB
  refine lv_aload_n hx hb dX11_wrong_46 rfl (lv_at hl 0 rfl) ?_
  refine lv_iload_n hx hb dX11_wrong_47 rfl (lv_at hl 1 rfl) ?_
  obtain ⟨s1, hs2, hB⟩ := letS_inv hB
  refine q_put (ty := .int) (w2 := (mwS cB cI cJ cZ h a s1)) tyX11 tyX11_ok nmX11 C inX11_wrong_X11 hK hP hD hS 0 rfl rfl 15 (by decide) rfl LX11_wrong_194 rfl (by decide +kernel) (rfl) rfl (Nat.le_of_ble_eq_true rfl) dX11_wrong_48 (mwS_v15 hs2) (fun H locs hP hD hS => ?_)
  refine lv_aload_n hx hb dX11_wrong_51 rfl (lv_at hl 0 rfl) ?_
  refine lv_iload_n hx hb dX11_wrong_52 rfl (lv_at hl 2 rfl) ?_
  obtain ⟨s3, hs4, hB⟩ := letS_inv hB
  refine q_put (ty := .int) (w2 := (mwS cB cI cJ cZ h a s3)) tyX11 tyX11_ok nmX11 C inX11_wrong_X11 hK hP hD hS 0 rfl rfl 16 (by decide) rfl LX11_wrong_197 rfl (by decide +kernel) (rfl) rfl (Nat.le_of_ble_eq_true rfl) dX11_wrong_53 (mwS_v16 hs4) (fun H locs hP hD hS => ?_)
  exact q_vret C hr hlocks hK hP hD hS (Nat.le_of_ble_eq_true rfl) (Nat.le_of_ble_eq_true rfl) dX11_wrong_56 (by cases hB; rfl)
set_option maxHeartbeats 4000000 in
set_option maxRecDepth 100000 in
theorem br_wrong {l : Launch} {dC : Nat → ClassId} {dI : Nat → Nat → Nat} {cB cI cJ cZ cS : ClassId} {h : Nat} {a : Nat → Nat} {as : List Value} {s' : RS} (s : RS) (x1 : Int32) (x2 : Int32) (hB : r_wrong s x1 x2 = some s') : BlkV l yX11_wrong wsX11_wrong ({ frames := 0, cells := 0, slots := 0, locals := 0 }) cX11_wrong 4 none (dC, dI) (tysA cB cI cJ cZ cS) as 0 (mwS cB cI cJ cZ h a s) [(0, .ref h), (1, .int x1), (2, .int x2)] [] (fun u => u = (mwS cB cI cJ cZ h a s')) := by
  intro p e s0 m below meth c A E H locs ls hP hD hS hl
  obtain ⟨C, hr, hlocks, hA, hK, hN⟩ := id E
  obtain ⟨hx, hb, hml, hown, hts⟩ := id C
  unfold r_wrong at hB
  refine lv_aload_n hx hb dX11_wrong_0 rfl (lv_at hl 0 rfl) ?_
  refine q_get (v := .ref (a 6)) C inX11_wrong_X11 hK hP 0 rfl rfl 6 (by decide) rfl LX11_wrong_24 rfl dX11_wrong_1 ?_
  refine lv_iload_n hx hb dX11_wrong_4 rfl (lv_at hl 2 rfl) ?_
  obtain ⟨g1, hB⟩ := guard_inv hB
  refine q_iald (x := (s.f 6 (Int32.toNatClampNeg x2))) C hK hP 4 1 rfl rfl (vpb_in g1) dX11_wrong_5 rfl ?_
  refine lv_istore_n (lv' := [(3, .int (s.f 6 (Int32.toNatClampNeg x2))), (0, .ref h), (1, .int x1), (2, .int x2)]) hx hb dX11_wrong_6 rfl hl (by decide) rfl (fun ls hl => ?_)
  refine lv_aload_n hx hb dX11_wrong_7 rfl (lv_at hl 1 rfl) ?_
  refine q_get (v := .int (s.v 13)) C inX11_wrong_X11 hK hP 0 rfl rfl 13 (by decide) rfl LX11_wrong_185 rfl dX11_wrong_8 ?_
  refine lv_if_gt (tgt := 45) hx hb dX11_wrong_11 (by decide) (fun c2 => ?_) (fun c2 => ?_)
  · have hB := if_p hB c2
    exact q_vret C hr hlocks hK hP hD hS (Nat.le_of_ble_eq_true rfl) (Nat.le_of_ble_eq_true rfl) dX11_wrong_45 (by cases hB; rfl)
  · have hB := if_n hB c2
    refine lv_aload_n hx hb dX11_wrong_14 rfl (lv_at hl 1 rfl) ?_
    refine q_get (v := .int (s.v 15)) C inX11_wrong_X11 hK hP 0 rfl rfl 15 (by decide) rfl LX11_wrong_194 rfl dX11_wrong_15 ?_
    refine lv_if_eq (tgt := 46) hx hb dX11_wrong_18 (by decide) (fun c3 => ?_) (fun c3 => ?_)
    · have hB := if_p hB c3
      exact br_wrong_46 _ _ _ hB p e s0 m below meth c A E H locs ls hP hD hS (lv_sub hl [1, 2, 0] rfl)
    · have hB := if_n hB c3
      refine lv_iload_n hx hb dX11_wrong_21 rfl (lv_at hl 0 rfl) ?_
      refine lv_aload_n hx hb dX11_wrong_22 rfl (lv_at hl 1 rfl) ?_
      refine q_get (v := .int (s.v 16)) C inX11_wrong_X11 hK hP 0 rfl rfl 16 (by decide) rfl LX11_wrong_197 rfl dX11_wrong_23 ?_
      refine lv_icmp_gt (tgt := 45) hx hb dX11_wrong_26 (by decide) (fun c4 => ?_) (fun c4 => ?_)
      · have hB := if_p hB c4
        exact q_vret C hr hlocks hK hP hD hS (Nat.le_of_ble_eq_true rfl) (Nat.le_of_ble_eq_true rfl) dX11_wrong_45 (by cases hB; rfl)
      · have hB := if_n hB c4
        refine lv_iload_n hx hb dX11_wrong_29 rfl (lv_at hl 0 rfl) ?_
        refine lv_aload_n hx hb dX11_wrong_30 rfl (lv_at hl 1 rfl) ?_
        refine q_get (v := .int (s.v 16)) C inX11_wrong_X11 hK hP 0 rfl rfl 16 (by decide) rfl LX11_wrong_197 rfl dX11_wrong_31 ?_
        refine lv_icmp_ne (tgt := 46) hx hb dX11_wrong_34 (by decide) (fun c5 => ?_) (fun c5 => ?_)
        · have hB := if_n hB c5
          exact br_wrong_46 _ _ _ hB p e s0 m below meth c A E H locs ls hP hD hS (lv_sub hl [1, 2, 0] rfl)
        · have hB := if_p hB c5
          refine lv_iload_n hx hb dX11_wrong_37 rfl (lv_at hl 2 rfl) ?_
          refine lv_aload_n hx hb dX11_wrong_38 rfl (lv_at hl 1 rfl) ?_
          refine q_get (v := .int (s.v 15)) C inX11_wrong_X11 hK hP 0 rfl rfl 15 (by decide) rfl LX11_wrong_194 rfl dX11_wrong_39 ?_
          refine lv_icmp_lt (tgt := 46) hx hb dX11_wrong_42 (by decide) (fun c6 => ?_) (fun c6 => ?_)
          · have hB := if_p hB c6
            exact br_wrong_46 _ _ _ hB p e s0 m below meth c A E H locs ls hP hD hS (lv_sub hl [1, 2, 0] rfl)
          · have hB := if_n hB c6
            exact q_vret C hr hlocks hK hP hD hS (Nat.le_of_ble_eq_true rfl) (Nat.le_of_ble_eq_true rfl) dX11_wrong_45 (by cases hB; rfl)
theorem cr_wrong {l : Launch} {dC : Nat → ClassId} {dI : Nat → Nat → Nat} {cB cI cJ cZ cS : ClassId} {h : Nat} {a : Nat → Nat} {s' : RS} {s : RS} {x1 : Int32} {x2 : Int32} (hB : r_wrong s x1 x2 = some s') : CV l yX11_wrong wsX11_wrong ({ frames := 0, cells := 0, slots := 0, locals := 0 }) (dC, dI) (tysA cB cI cJ cZ cS) (mwS cB cI cJ cZ h a s) [.ref h, .int x1, .int x2] (fun u => u = (mwS cB cI cJ cZ h a s')) :=
  CV_of (cc := cX11_wrong) (maxL := 4) (ret := none) (by decide) rfl (Nat.le_of_ble_eq_true rfl) (br_wrong _ _ _ hB)
theorem LX11_goesOn_188 : Cond.fieldLink RX11 188 "GuessFerryModel" "t" "I" ∈ wsX11_goesOn := (List.mem_cons_of_mem _ (List.mem_append_left _ (List.mem_append_left _ (List.mem_of_getElem? (i := 0) rfl))))
theorem inX11_goesOn_X11 : ∀ w ∈ u_ws RX11 TX11 58, w ∈ wsX11_goesOn := fun w h => (List.mem_cons_of_mem _ (List.mem_append_right _ h))
set_option maxHeartbeats 4000000 in
set_option maxRecDepth 100000 in
theorem br_goesOn {l : Launch} {dC : Nat → ClassId} {dI : Nat → Nat → Nat} {cB cI cJ cZ cS : ClassId} {h : Nat} {a : Nat → Nat} {as : List Value} {s' : RS} (s : RS) (hB : r_goesOn s = some s') : BlkV l yX11_goesOn wsX11_goesOn ({ frames := 1, cells := 0, slots := 0, locals := 21 }) cX11_goesOn 1 none (dC, dI) (tysA cB cI cJ cZ cS) as 0 (mwS cB cI cJ cZ h a s) [(0, .ref h)] [] (fun u => u = (mwS cB cI cJ cZ h a s')) := by
  intro p e s0 m below meth c A E H locs ls hP hD hS hl
  obtain ⟨C, hr, hlocks, hA, hK, hN⟩ := id E
  obtain ⟨hx, hb, hml, hown, hts⟩ := id C
  unfold r_goesOn at hB
  refine lv_aload_n hx hb dX11_goesOn_0 rfl (lv_at hl 0 rfl) ?_
  refine q_get (v := .int (s.v 11)) C inX11_goesOn_X11 hK hP 0 rfl rfl 11 (by decide) rfl LX11_goesOn_188 rfl dX11_goesOn_1 ?_
  refine lv_sipush (v := 400) hx hb dX11_goesOn_4 (by decide) ?_
  refine lv_icmp_ne (tgt := 18) hx hb dX11_goesOn_7 (by decide) (fun c1 => ?_) (fun c1 => ?_)
  · have hB := if_n hB c1
    refine lv_aload_n hx hb dX11_goesOn_18 rfl (lv_at hl 0 rfl) ?_
    refine lv_dup hx hb dX11_goesOn_19 rfl ?_
    refine q_get (v := .int (s.v 11)) C inX11_goesOn_X11 hK hP 0 rfl rfl 11 (by decide) rfl LX11_goesOn_188 rfl dX11_goesOn_20 ?_
    refine lv_iconst (v := 1) hx hb dX11_goesOn_23 (by decide) ?_
    refine lv_iadd hx hb dX11_goesOn_24 ?_
    obtain ⟨s2, hs3, hB⟩ := letS_inv hB
    refine q_put (ty := .int) (w2 := (mwS cB cI cJ cZ h a s2)) tyX11 tyX11_ok nmX11 C inX11_goesOn_X11 hK hP hD hS 0 rfl rfl 11 (by decide) rfl LX11_goesOn_188 rfl (by decide +kernel) (rfl) rfl (Nat.le_of_ble_eq_true rfl) dX11_goesOn_25 (mwS_v11 hs3) (fun H locs hP hD hS => ?_)
    exact q_vret C hr hlocks hK hP hD hS (Nat.le_of_ble_eq_true rfl) (Nat.le_of_ble_eq_true rfl) dX11_goesOn_28 (by cases hB; rfl)
  · have hB := if_p hB c1
    refine lv_aload_n hx hb dX11_goesOn_10 rfl (lv_at hl 0 rfl) ?_
    refine lv_iconst (v := 2) hx hb dX11_goesOn_11 (by decide) ?_
    obtain ⟨s4, hc, hB⟩ := bindP_inv hB
    refine q_govF (va_runV (As := [.int 2]) (rest := []) C (cr_fail hc _) (cwV 1 hts gX11_goesOn_X11_fail rfl rfl rfl (by decide +kernel) ⟨Nat.le_of_ble_eq_true rfl, Nat.le_of_ble_eq_true rfl⟩) (q_preV hK hP (ci := 11) (q0 := 0) rfl rfl rfl (q_preF hN hK hP hD)) rfl rfl hl.1 rfl (lv_room (Nat.le_of_ble_eq_true rfl)) dX11_goesOn_12 ⟨Nat.le_of_ble_eq_true rfl, Nat.le_of_ble_eq_true rfl⟩) hD hS hA (fun w1 H locs hw hP hD hS => ?_)
    subst hw
    refine lv_goto (tgt := 28) hx hb dX11_goesOn_15 (by decide) ?_
    exact q_vret C hr hlocks hK hP hD hS (Nat.le_of_ble_eq_true rfl) (Nat.le_of_ble_eq_true rfl) dX11_goesOn_28 (by cases hB; rfl)
theorem cr_goesOn {l : Launch} {dC : Nat → ClassId} {dI : Nat → Nat → Nat} {cB cI cJ cZ cS : ClassId} {h : Nat} {a : Nat → Nat} {s' : RS} {s : RS} (hB : r_goesOn s = some s') : CV l yX11_goesOn wsX11_goesOn ({ frames := 1, cells := 0, slots := 0, locals := 21 }) (dC, dI) (tysA cB cI cJ cZ cS) (mwS cB cI cJ cZ h a s) [.ref h] (fun u => u = (mwS cB cI cJ cZ h a s')) :=
  CV_of (cc := cX11_goesOn) (maxL := 1) (ret := none) (by decide) rfl (Nat.le_of_ble_eq_true rfl) (br_goesOn _ hB)
set_option maxHeartbeats 4000000 in
set_option maxRecDepth 100000 in
theorem br_must {l : Launch} {dC : Nat → ClassId} {dI : Nat → Nat → Nat} {cB cI cJ cZ cS : ClassId} {h : Nat} {a : Nat → Nat} {as : List Value} {s' : RS} (s : RS) (x1 : Int32) (hB : r_must s x1 = some s') : BlkV l yX11_must wsX11_must ({ frames := 2, cells := 0, slots := 0, locals := 41 }) cX11_must 2 none (dC, dI) (tysA cB cI cJ cZ cS) as 0 (mwS cB cI cJ cZ h a s) [(0, .ref h), (1, .int x1)] [] (fun u => u = (mwS cB cI cJ cZ h a s')) := by
  intro p e s0 m below meth c A E H locs ls hP hD hS hl
  obtain ⟨C, hr, hlocks, hA, hK, hN⟩ := id E
  obtain ⟨hx, hb, hml, hown, hts⟩ := id C
  unfold r_must at hB
  refine lv_aload_n hx hb dX11_must_0 rfl (lv_at hl 0 rfl) ?_
  refine lv_iload_n hx hb dX11_must_1 rfl (lv_at hl 1 rfl) ?_
  obtain ⟨q_, s1, hc, hB⟩ := bindI_inv hB
  refine q_goiF (va_runV (As := [.int x1]) (rest := []) C (cr_is hc _) (cwV 1 hts gX11_must_X11_is rfl rfl rfl (by decide +kernel) ⟨Nat.le_of_ble_eq_true rfl, Nat.le_of_ble_eq_true rfl⟩) (q_preV hK hP (ci := 11) (q0 := 0) rfl rfl rfl (q_preF hN hK hP hD)) rfl rfl hl.1 rfl (lv_room (Nat.le_of_ble_eq_true rfl)) dX11_must_2 ⟨Nat.le_of_ble_eq_true rfl, Nat.le_of_ble_eq_true rfl⟩) hD hS hA (fun r2 w1 H locs hw hP hD hS => ?_)
  obtain ⟨hq_, hw⟩ := hw; subst hw; subst hq_
  refine lv_if_eq (tgt := 15) hx hb dX11_must_5 (by decide) (fun c3 => ?_) (fun c3 => ?_)
  · have hB := if_p hB c3
    refine lv_aload_n hx hb dX11_must_15 rfl (lv_at hl 0 rfl) ?_
    refine lv_iconst (v := 1) hx hb dX11_must_16 (by decide) ?_
    obtain ⟨s4, hc, hB⟩ := bindP_inv hB
    refine q_govF (va_runV (As := [.int 1]) (rest := []) C (cr_fail hc _) (cwV 1 hts gX11_must_X11_fail rfl rfl rfl (by decide +kernel) ⟨Nat.le_of_ble_eq_true rfl, Nat.le_of_ble_eq_true rfl⟩) (q_preV hK hP (ci := 11) (q0 := 0) rfl rfl rfl (q_preF hN hK hP hD)) rfl rfl hl.1 rfl (lv_room (Nat.le_of_ble_eq_true rfl)) dX11_must_17 ⟨Nat.le_of_ble_eq_true rfl, Nat.le_of_ble_eq_true rfl⟩) hD hS hA (fun w1 H locs hw hP hD hS => ?_)
    subst hw
    exact q_vret C hr hlocks hK hP hD hS (Nat.le_of_ble_eq_true rfl) (Nat.le_of_ble_eq_true rfl) dX11_must_20 (by cases hB; rfl)
  · have hB := if_n hB c3
    refine lv_aload_n hx hb dX11_must_8 rfl (lv_at hl 0 rfl) ?_
    obtain ⟨s5, hc, hB⟩ := bindP_inv hB
    refine q_govF (va_runV (As := []) (rest := []) C (cr_goesOn hc _) (cwV 0 hts gX11_must_X11_goesOn rfl rfl rfl (by decide +kernel) ⟨Nat.le_of_ble_eq_true rfl, Nat.le_of_ble_eq_true rfl⟩) (q_preV hK hP (ci := 11) (q0 := 0) rfl rfl rfl (q_preF hN hK hP hD)) rfl rfl hl.1 rfl (lv_room (Nat.le_of_ble_eq_true rfl)) dX11_must_9 ⟨Nat.le_of_ble_eq_true rfl, Nat.le_of_ble_eq_true rfl⟩) hD hS hA (fun w1 H locs hw hP hD hS => ?_)
    subst hw
    refine lv_goto (tgt := 20) hx hb dX11_must_12 (by decide) ?_
    exact q_vret C hr hlocks hK hP hD hS (Nat.le_of_ble_eq_true rfl) (Nat.le_of_ble_eq_true rfl) dX11_must_20 (by cases hB; rfl)
theorem cr_must {l : Launch} {dC : Nat → ClassId} {dI : Nat → Nat → Nat} {cB cI cJ cZ cS : ClassId} {h : Nat} {a : Nat → Nat} {s' : RS} {s : RS} {x1 : Int32} (hB : r_must s x1 = some s') : CV l yX11_must wsX11_must ({ frames := 2, cells := 0, slots := 0, locals := 41 }) (dC, dI) (tysA cB cI cJ cZ cS) (mwS cB cI cJ cZ h a s) [.ref h, .int x1] (fun u => u = (mwS cB cI cJ cZ h a s')) :=
  CV_of (cc := cX11_must) (maxL := 2) (ret := none) (by decide) rfl (Nat.le_of_ble_eq_true rfl) (br_must _ _ hB)
theorem LX11_plain_40 : Cond.fieldLink RX11 40 "GuessFerryModel" "waves" "[I" ∈ wsX11_plain := (List.mem_cons_of_mem _ (List.mem_append_left _ (List.mem_of_getElem? (i := 0) rfl)))
theorem LX11_plain_49 : Cond.fieldLink RX11 49 "GuessFerryModel" "parties" "[I" ∈ wsX11_plain := (List.mem_cons_of_mem _ (List.mem_append_left _ (List.mem_of_getElem? (i := 1) rfl)))
theorem LX11_plain_58 : Cond.fieldLink RX11 58 "GuessFerryModel" "seed" "[I" ∈ wsX11_plain := (List.mem_cons_of_mem _ (List.mem_append_left _ (List.mem_of_getElem? (i := 2) rfl)))
theorem LX11_plain_61 : Cond.fieldLink RX11 61 "GuessFerryModel" "lawFirst" "[I" ∈ wsX11_plain := (List.mem_cons_of_mem _ (List.mem_append_left _ (List.mem_of_getElem? (i := 3) rfl)))
theorem LX11_plain_64 : Cond.fieldLink RX11 64 "GuessFerryModel" "lawLast" "[I" ∈ wsX11_plain := (List.mem_cons_of_mem _ (List.mem_append_left _ (List.mem_of_getElem? (i := 4) rfl)))
theorem inX11_plain_X11 : ∀ w ∈ u_ws RX11 TX11 58, w ∈ wsX11_plain := fun _ h => List.mem_cons_of_mem _ (List.mem_append_right _ h)
set_option maxHeartbeats 4000000 in
set_option maxRecDepth 100000 in
theorem br_plain_23 {l : Launch} {dC : Nat → ClassId} {dI : Nat → Nat → Nat} {cB cI cJ cZ cS : ClassId} {h : Nat} {a : Nat → Nat} {as : List Value} {s' : RS} {k23 : RS → Int32 → Int32 → Option RS} (hk23 : ∀ (s : RS) (x1 : Int32) (x2 : Int32), k23 s x1 x2 = some s' → BlkV l yX11_plain wsX11_plain ({ frames := 0, cells := 0, slots := 0, locals := 0 }) cX11_plain 3 none (dC, dI) (tysA cB cI cJ cZ cS) as 23 (mwS cB cI cJ cZ h a s) [(0, .ref h), (1, .int x1), (2, .int x2)] [] (fun u => u = (mwS cB cI cJ cZ h a s'))) (s : RS) (x1 : Int32) (x2 : Int32) (hB : r_plain_23 k23 s x1 x2 = some s') : BlkV l yX11_plain wsX11_plain ({ frames := 0, cells := 0, slots := 0, locals := 0 }) cX11_plain 3 none (dC, dI) (tysA cB cI cJ cZ cS) as 23 (mwS cB cI cJ cZ h a s) [(0, .ref h), (1, .int x1), (2, .int x2)] [] (fun u => u = (mwS cB cI cJ cZ h a s')) := by
  intro p e s0 m below meth c A E H locs ls hP hD hS hl
  obtain ⟨C, hr, hlocks, hA, hK, hN⟩ := id E
  obtain ⟨hx, hb, hml, hown, hts⟩ := id C
  unfold r_plain_23 at hB
  refine lv_iload_n hx hb dX11_plain_23 rfl (lv_at hl 2 rfl) ?_
  refine lv_iconst (v := 4) hx hb dX11_plain_24 (by decide) ?_
  refine lv_icmp_ge (tgt := 56) hx hb dX11_plain_25 (by decide) (fun c1 => ?_) (fun c1 => ?_)
  · have hB := if_p hB c1
    exact q_vret C hr hlocks hK hP hD hS (Nat.le_of_ble_eq_true rfl) (Nat.le_of_ble_eq_true rfl) dX11_plain_56 (by cases hB; rfl)
  · have hB := if_n hB c1
    refine lv_aload_n hx hb dX11_plain_28 rfl (lv_at hl 0 rfl) ?_
    refine q_get (v := .ref (a 27)) C inX11_plain_X11 hK hP 0 rfl rfl 27 (by decide) rfl LX11_plain_61 rfl dX11_plain_29 ?_
    refine lv_iconst (v := 4) hx hb dX11_plain_32 (by decide) ?_
    refine lv_iload_n hx hb dX11_plain_33 rfl (lv_at hl 1 rfl) ?_
    refine lv_imul hx hb dX11_plain_34 ?_
    refine lv_iload_n hx hb dX11_plain_35 rfl (lv_at hl 2 rfl) ?_
    refine lv_iadd hx hb dX11_plain_36 ?_
    refine lv_iconst (v := 0) hx hb dX11_plain_37 (by decide) ?_
    obtain ⟨g2, hB⟩ := guard_inv hB
    obtain ⟨s3, hs4, hB⟩ := letS_inv hB
    refine q_iast (f2 := (upd (s.f 27) (Int32.toNatClampNeg ((4 * x1) + x2)) 0)) (w2 := (mwS cB cI cJ cZ h a s3)) C hK hP hD hS 15 1 rfl rfl (vpb_in g2) dX11_plain_38 rfl (mwS_f27 hs4) (fun H locs hP hD hS => ?_)
    refine lv_aload_n hx hb dX11_plain_39 rfl (lv_at hl 0 rfl) ?_
    refine q_get (v := .ref (a 28)) C inX11_plain_X11 hK hP 0 rfl rfl 28 (by decide) rfl LX11_plain_64 rfl dX11_plain_40 ?_
    refine lv_iconst (v := 4) hx hb dX11_plain_43 (by decide) ?_
    refine lv_iload_n hx hb dX11_plain_44 rfl (lv_at hl 1 rfl) ?_
    refine lv_imul hx hb dX11_plain_45 ?_
    refine lv_iload_n hx hb dX11_plain_46 rfl (lv_at hl 2 rfl) ?_
    refine lv_iadd hx hb dX11_plain_47 ?_
    refine lv_iconst (v := 0) hx hb dX11_plain_48 (by decide) ?_
    obtain ⟨g5, hB⟩ := guard_inv hB
    obtain ⟨s6, hs7, hB⟩ := letS_inv hB
    refine q_iast (f2 := (upd (s3.f 28) (Int32.toNatClampNeg ((4 * x1) + x2)) 0)) (w2 := (mwS cB cI cJ cZ h a s6)) C hK hP hD hS 16 1 rfl rfl (vpb_in g5) dX11_plain_49 rfl (mwS_f28 hs7) (fun H locs hP hD hS => ?_)
    refine lv_iinc (v := (x2 + 1)) (lv' := [(2, .int (x2 + 1)), (0, .ref h), (1, .int x1)]) hx hb dX11_plain_50 hl (k := 2) rfl (rfl) (by decide) rfl (fun ls hl => ?_)
    refine lv_goto (tgt := 23) hx hb dX11_plain_53 (by decide) ?_
    exact hk23 _ _ _ hB p e s0 m below meth c A E H locs ls hP hD hS (lv_sub hl [1, 2, 0] rfl)
theorem br_plain_23L {l : Launch} {dC : Nat → ClassId} {dI : Nat → Nat → Nat} {cB cI cJ cZ cS : ClassId} {h : Nat} {a : Nat → Nat} {as : List Value} {s' : RS} : ∀ (n : Nat) (s : RS) (x1 : Int32) (x2 : Int32), r_plain_23L n s x1 x2 = some s' → BlkV l yX11_plain wsX11_plain ({ frames := 0, cells := 0, slots := 0, locals := 0 }) cX11_plain 3 none (dC, dI) (tysA cB cI cJ cZ cS) as 23 (mwS cB cI cJ cZ h a s) [(0, .ref h), (1, .int x1), (2, .int x2)] [] (fun u => u = (mwS cB cI cJ cZ h a s')) := by
  intro n
  induction n with
  | zero => intro s x1 x2 hB; exact none_ne hB
  | succ n ih => intro s x1 x2 hB; exact br_plain_23 ih _ _ _ hB
set_option maxHeartbeats 4000000 in
set_option maxRecDepth 100000 in
theorem br_plain {l : Launch} {dC : Nat → ClassId} {dI : Nat → Nat → Nat} {cB cI cJ cZ cS : ClassId} {h : Nat} {a : Nat → Nat} {as : List Value} {s' : RS} (s : RS) (x1 : Int32) (hB : r_plain s x1 = some s') : BlkV l yX11_plain wsX11_plain ({ frames := 0, cells := 0, slots := 0, locals := 0 }) cX11_plain 3 none (dC, dI) (tysA cB cI cJ cZ cS) as 0 (mwS cB cI cJ cZ h a s) [(0, .ref h), (1, .int x1)] [] (fun u => u = (mwS cB cI cJ cZ h a s')) := by
  intro p e s0 m below meth c A E H locs ls hP hD hS hl
  obtain ⟨C, hr, hlocks, hA, hK, hN⟩ := id E
  obtain ⟨hx, hb, hml, hown, hts⟩ := id C
  unfold r_plain at hB
  refine lv_aload_n hx hb dX11_plain_0 rfl (lv_at hl 0 rfl) ?_
  refine q_get (v := .ref (a 20)) C inX11_plain_X11 hK hP 0 rfl rfl 20 (by decide) rfl LX11_plain_40 rfl dX11_plain_1 ?_
  refine lv_iload_n hx hb dX11_plain_4 rfl (lv_at hl 1 rfl) ?_
  refine lv_iconst (v := 0) hx hb dX11_plain_5 (by decide) ?_
  obtain ⟨g1, hB⟩ := guard_inv hB
  obtain ⟨s2, hs3, hB⟩ := letS_inv hB
  refine q_iast (f2 := (upd (s.f 20) (Int32.toNatClampNeg x1) 0)) (w2 := (mwS cB cI cJ cZ h a s2)) C hK hP hD hS 8 1 rfl rfl (vpb_in g1) dX11_plain_6 rfl (mwS_f20 hs3) (fun H locs hP hD hS => ?_)
  refine lv_aload_n hx hb dX11_plain_7 rfl (lv_at hl 0 rfl) ?_
  refine q_get (v := .ref (a 23)) C inX11_plain_X11 hK hP 0 rfl rfl 23 (by decide) rfl LX11_plain_49 rfl dX11_plain_8 ?_
  refine lv_iload_n hx hb dX11_plain_11 rfl (lv_at hl 1 rfl) ?_
  refine lv_iconst (v := 0) hx hb dX11_plain_12 (by decide) ?_
  obtain ⟨g4, hB⟩ := guard_inv hB
  obtain ⟨s5, hs6, hB⟩ := letS_inv hB
  refine q_iast (f2 := (upd (s2.f 23) (Int32.toNatClampNeg x1) 0)) (w2 := (mwS cB cI cJ cZ h a s5)) C hK hP hD hS 11 1 rfl rfl (vpb_in g4) dX11_plain_13 rfl (mwS_f23 hs6) (fun H locs hP hD hS => ?_)
  refine lv_aload_n hx hb dX11_plain_14 rfl (lv_at hl 0 rfl) ?_
  refine q_get (v := .ref (a 26)) C inX11_plain_X11 hK hP 0 rfl rfl 26 (by decide) rfl LX11_plain_58 rfl dX11_plain_15 ?_
  refine lv_iload_n hx hb dX11_plain_18 rfl (lv_at hl 1 rfl) ?_
  refine lv_iconst (v := 0) hx hb dX11_plain_19 (by decide) ?_
  obtain ⟨g7, hB⟩ := guard_inv hB
  obtain ⟨s8, hs9, hB⟩ := letS_inv hB
  refine q_iast (f2 := (upd (s5.f 26) (Int32.toNatClampNeg x1) 0)) (w2 := (mwS cB cI cJ cZ h a s8)) C hK hP hD hS 14 1 rfl rfl (vpb_in g7) dX11_plain_20 rfl (mwS_f26 hs9) (fun H locs hP hD hS => ?_)
  refine lv_iconst (v := 0) hx hb dX11_plain_21 (by decide) ?_
  refine lv_istore_n (lv' := [(2, .int 0), (0, .ref h), (1, .int x1)]) hx hb dX11_plain_22 rfl hl (by decide) rfl (fun ls hl => ?_)
  exact br_plain_23L fu _ _ _ hB p e s0 m below meth c A E H locs ls hP hD hS (lv_sub hl [1, 2, 0] rfl)
theorem cr_plain {l : Launch} {dC : Nat → ClassId} {dI : Nat → Nat → Nat} {cB cI cJ cZ cS : ClassId} {h : Nat} {a : Nat → Nat} {s' : RS} {s : RS} {x1 : Int32} (hB : r_plain s x1 = some s') : CV l yX11_plain wsX11_plain ({ frames := 0, cells := 0, slots := 0, locals := 0 }) (dC, dI) (tysA cB cI cJ cZ cS) (mwS cB cI cJ cZ h a s) [.ref h, .int x1] (fun u => u = (mwS cB cI cJ cZ h a s')) :=
  CV_of (cc := cX11_plain) (maxL := 3) (ret := none) (by decide) rfl (Nat.le_of_ble_eq_true rfl) (br_plain _ _ hB)
theorem LX11_roomFor_185 : Cond.fieldLink RX11 185 "GuessFerryModel" "fault" "I" ∈ wsX11_roomFor := (List.mem_cons_of_mem _ (List.mem_append_left _ (List.mem_append_left _ (List.mem_of_getElem? (i := 0) rfl))))
theorem inX11_roomFor_X11 : ∀ w ∈ u_ws RX11 TX11 58, w ∈ wsX11_roomFor := fun w h => (List.mem_cons_of_mem _ (List.mem_append_right _ h))
set_option maxHeartbeats 4000000 in
set_option maxRecDepth 100000 in
theorem br_roomFor_10 {l : Launch} {dC : Nat → ClassId} {dI : Nat → Nat → Nat} {cB cI cJ cZ cS : ClassId} {h : Nat} {a : Nat → Nat} {as : List Value} {s' : RS} (s : RS) (hB : r_roomFor_10 s = some s') : BlkV l yX11_roomFor wsX11_roomFor ({ frames := 2, cells := 0, slots := 0, locals := 41 }) cX11_roomFor 3 none (dC, dI) (tysA cB cI cJ cZ cS) as 10 (mwS cB cI cJ cZ h a s) [(0, .ref h)] [] (fun u => u = (mwS cB cI cJ cZ h a s')) := by
  intro p e s0 m below meth c A E H locs ls hP hD hS hl
  obtain ⟨C, hr, hlocks, hA, hK, hN⟩ := id E
  obtain ⟨hx, hb, hml, hown, hts⟩ := id C
  unfold r_roomFor_10 at hB
  refine lv_aload_n hx hb dX11_roomFor_10 rfl (lv_at hl 0 rfl) ?_
  refine q_get (v := .int (s.v 13)) C inX11_roomFor_X11 hK hP 0 rfl rfl 13 (by decide) rfl LX11_roomFor_185 rfl dX11_roomFor_11 ?_
  refine lv_if_ne (tgt := 21) hx hb dX11_roomFor_14 (by decide) (fun c1 => ?_) (fun c1 => ?_)
  · have hB := if_n hB c1
    exact q_vret C hr hlocks hK hP hD hS (Nat.le_of_ble_eq_true rfl) (Nat.le_of_ble_eq_true rfl) dX11_roomFor_21 (by cases hB; rfl)
  · have hB := if_p hB c1
    refine lv_aload_n hx hb dX11_roomFor_17 rfl (lv_at hl 0 rfl) ?_
    obtain ⟨s2, hc, hB⟩ := bindP_inv hB
    refine q_govF (va_runV (As := []) (rest := []) C (cr_goesOn hc _) (cwV 0 hts gX11_roomFor_X11_goesOn rfl rfl rfl (by decide +kernel) ⟨Nat.le_of_ble_eq_true rfl, Nat.le_of_ble_eq_true rfl⟩) (q_preV hK hP (ci := 11) (q0 := 0) rfl rfl rfl (q_preF hN hK hP hD)) rfl rfl hl.1 rfl (lv_room (Nat.le_of_ble_eq_true rfl)) dX11_roomFor_18 ⟨Nat.le_of_ble_eq_true rfl, Nat.le_of_ble_eq_true rfl⟩) hD hS hA (fun w1 H locs hw hP hD hS => ?_)
    subst hw
    exact q_vret C hr hlocks hK hP hD hS (Nat.le_of_ble_eq_true rfl) (Nat.le_of_ble_eq_true rfl) dX11_roomFor_21 (by cases hB; rfl)
set_option maxHeartbeats 4000000 in
set_option maxRecDepth 100000 in
theorem br_roomFor {l : Launch} {dC : Nat → ClassId} {dI : Nat → Nat → Nat} {cB cI cJ cZ cS : ClassId} {h : Nat} {a : Nat → Nat} {as : List Value} {s' : RS} (s : RS) (x1 : Int32) (x2 : Int32) (hB : r_roomFor s x1 x2 = some s') : BlkV l yX11_roomFor wsX11_roomFor ({ frames := 2, cells := 0, slots := 0, locals := 41 }) cX11_roomFor 3 none (dC, dI) (tysA cB cI cJ cZ cS) as 0 (mwS cB cI cJ cZ h a s) [(0, .ref h), (1, .int x1), (2, .int x2)] [] (fun u => u = (mwS cB cI cJ cZ h a s')) := by
  intro p e s0 m below meth c A E H locs ls hP hD hS hl
  obtain ⟨C, hr, hlocks, hA, hK, hN⟩ := id E
  obtain ⟨hx, hb, hml, hown, hts⟩ := id C
  unfold r_roomFor at hB
  refine lv_iload_n hx hb dX11_roomFor_0 rfl (lv_at hl 1 rfl) ?_
  refine lv_iload_n hx hb dX11_roomFor_1 rfl (lv_at hl 2 rfl) ?_
  refine lv_icmp_ne (tgt := 10) hx hb dX11_roomFor_2 (by decide) (fun c1 => ?_) (fun c1 => ?_)
  · have hB := if_n hB c1
    exact br_roomFor_10 _ hB p e s0 m below meth c A E H locs ls hP hD hS (lv_sub hl [0] rfl)
  · have hB := if_p hB c1
    refine lv_aload_n hx hb dX11_roomFor_5 rfl (lv_at hl 0 rfl) ?_
    refine lv_iconst (v := 2) hx hb dX11_roomFor_6 (by decide) ?_
    obtain ⟨s2, hc, hB⟩ := bindP_inv hB
    refine q_govF (va_runV (As := [.int 2]) (rest := []) C (cr_fail hc _) (cwV 1 hts gX11_roomFor_X11_fail rfl rfl rfl (by decide +kernel) ⟨Nat.le_of_ble_eq_true rfl, Nat.le_of_ble_eq_true rfl⟩) (q_preV hK hP (ci := 11) (q0 := 0) rfl rfl rfl (q_preF hN hK hP hD)) rfl rfl hl.1 rfl (lv_room (Nat.le_of_ble_eq_true rfl)) dX11_roomFor_7 ⟨Nat.le_of_ble_eq_true rfl, Nat.le_of_ble_eq_true rfl⟩) hD hS hA (fun w1 H locs hw hP hD hS => ?_)
    subst hw
    exact br_roomFor_10 _ hB p e s0 m below meth c A E H locs ls hP hD hS (lv_sub hl [0] rfl)
theorem cr_roomFor {l : Launch} {dC : Nat → ClassId} {dI : Nat → Nat → Nat} {cB cI cJ cZ cS : ClassId} {h : Nat} {a : Nat → Nat} {s' : RS} {s : RS} {x1 : Int32} {x2 : Int32} (hB : r_roomFor s x1 x2 = some s') : CV l yX11_roomFor wsX11_roomFor ({ frames := 2, cells := 0, slots := 0, locals := 41 }) (dC, dI) (tysA cB cI cJ cZ cS) (mwS cB cI cJ cZ h a s) [.ref h, .int x1, .int x2] (fun u => u = (mwS cB cI cJ cZ h a s')) :=
  CV_of (cc := cX11_roomFor) (maxL := 3) (ret := none) (by decide) rfl (Nat.le_of_ble_eq_true rfl) (br_roomFor _ _ _ hB)
theorem LX11_bounded_185 : Cond.fieldLink RX11 185 "GuessFerryModel" "fault" "I" ∈ wsX11_bounded := (List.mem_cons_of_mem _ (List.mem_append_left _ (List.mem_append_left _ (List.mem_of_getElem? (i := 0) rfl))))
theorem LX11_bounded_188 : Cond.fieldLink RX11 188 "GuessFerryModel" "t" "I" ∈ wsX11_bounded := (List.mem_cons_of_mem _ (List.mem_append_left _ (List.mem_append_left _ (List.mem_of_getElem? (i := 2) rfl))))
theorem LX11_bounded_27 : Cond.fieldLink RX11 27 "GuessFerryModel" "tValue" "[I" ∈ wsX11_bounded := (List.mem_cons_of_mem _ (List.mem_append_left _ (List.mem_append_left _ (List.mem_of_getElem? (i := 1) rfl))))
theorem inX11_bounded_X11 : ∀ w ∈ u_ws RX11 TX11 58, w ∈ wsX11_bounded := fun w h => (List.mem_cons_of_mem _ (List.mem_append_right _ h))
set_option maxHeartbeats 4000000 in
set_option maxRecDepth 100000 in
theorem br_bounded_15 {l : Launch} {dC : Nat → ClassId} {dI : Nat → Nat → Nat} {cB cI cJ cZ cS : ClassId} {h : Nat} {a : Nat → Nat} {as : List Value} {r : Int32} {s' : RS} (s : RS) (hB : r_bounded_15 s = some (r, s')) : BlkI l yX11_bounded wsX11_bounded ({ frames := 2, cells := 0, slots := 0, locals := 41 }) cX11_bounded 3 (some .int) (dC, dI) (tysA cB cI cJ cZ cS) as 15 (mwS cB cI cJ cZ h a s) [(0, .ref h)] [] (fun x u => x = r ∧ u = (mwS cB cI cJ cZ h a s')) := by
  intro p e s0 m below meth c A E H locs ls hP hD hS hl
  obtain ⟨C, hr, hlocks, hA, hK, hN⟩ := id E
  obtain ⟨hx, hb, hml, hown, hts⟩ := id C
  unfold r_bounded_15 at hB
  refine lv_aload_n hx hb dX11_bounded_15 rfl (lv_at hl 0 rfl) ?_
  refine lv_iconst (v := 1) hx hb dX11_bounded_16 (by decide) ?_
  obtain ⟨s1, hc, hB⟩ := bindP_inv hB
  refine q_govF (va_runV (As := [.int 1]) (rest := []) C (cr_fail hc _) (cwV 1 hts gX11_bounded_X11_fail rfl rfl rfl (by decide +kernel) ⟨Nat.le_of_ble_eq_true rfl, Nat.le_of_ble_eq_true rfl⟩) (q_preV hK hP (ci := 11) (q0 := 0) rfl rfl rfl (q_preF hN hK hP hD)) rfl rfl hl.1 rfl (lv_room (Nat.le_of_ble_eq_true rfl)) dX11_bounded_17 ⟨Nat.le_of_ble_eq_true rfl, Nat.le_of_ble_eq_true rfl⟩) hD hS hA (fun w1 H locs hw hP hD hS => ?_)
  subst hw
  refine lv_iconst (v := 0) hx hb dX11_bounded_20 (by decide) ?_
  exact q_iret C hr hlocks hK hP hD hS (Nat.le_of_ble_eq_true rfl) (Nat.le_of_ble_eq_true rfl) dX11_bounded_21 (by cases hB; exact ⟨rfl, rfl⟩)
set_option maxHeartbeats 4000000 in
set_option maxRecDepth 100000 in
theorem br_bounded_46 {l : Launch} {dC : Nat → ClassId} {dI : Nat → Nat → Nat} {cB cI cJ cZ cS : ClassId} {h : Nat} {a : Nat → Nat} {as : List Value} {r : Int32} {s' : RS} (s : RS) (x2 : Int32) (hB : r_bounded_46 s x2 = some (r, s')) : BlkI l yX11_bounded wsX11_bounded ({ frames := 2, cells := 0, slots := 0, locals := 41 }) cX11_bounded 3 (some .int) (dC, dI) (tysA cB cI cJ cZ cS) as 46 (mwS cB cI cJ cZ h a s) [(0, .ref h), (2, .int x2)] [] (fun x u => x = r ∧ u = (mwS cB cI cJ cZ h a s')) := by
  intro p e s0 m below meth c A E H locs ls hP hD hS hl
  obtain ⟨C, hr, hlocks, hA, hK, hN⟩ := id E
  obtain ⟨hx, hb, hml, hown, hts⟩ := id C
  unfold r_bounded_46 at hB
  refine lv_aload_n hx hb dX11_bounded_46 rfl (lv_at hl 0 rfl) ?_
  obtain ⟨s1, hc, hB⟩ := bindP_inv hB
  refine q_govF (va_runV (As := []) (rest := []) C (cr_goesOn hc _) (cwV 0 hts gX11_bounded_X11_goesOn rfl rfl rfl (by decide +kernel) ⟨Nat.le_of_ble_eq_true rfl, Nat.le_of_ble_eq_true rfl⟩) (q_preV hK hP (ci := 11) (q0 := 0) rfl rfl rfl (q_preF hN hK hP hD)) rfl rfl hl.1 rfl (lv_room (Nat.le_of_ble_eq_true rfl)) dX11_bounded_47 ⟨Nat.le_of_ble_eq_true rfl, Nat.le_of_ble_eq_true rfl⟩) hD hS hA (fun w1 H locs hw hP hD hS => ?_)
  subst hw
  refine lv_iload_n hx hb dX11_bounded_50 rfl (lv_at hl 1 rfl) ?_
  exact q_iret C hr hlocks hK hP hD hS (Nat.le_of_ble_eq_true rfl) (Nat.le_of_ble_eq_true rfl) dX11_bounded_51 (by cases hB; exact ⟨rfl, rfl⟩)
set_option maxHeartbeats 4000000 in
set_option maxRecDepth 100000 in
theorem br_bounded {l : Launch} {dC : Nat → ClassId} {dI : Nat → Nat → Nat} {cB cI cJ cZ cS : ClassId} {h : Nat} {a : Nat → Nat} {as : List Value} {r : Int32} {s' : RS} (s : RS) (x1 : Int32) (hB : r_bounded s x1 = some (r, s')) : BlkI l yX11_bounded wsX11_bounded ({ frames := 2, cells := 0, slots := 0, locals := 41 }) cX11_bounded 3 (some .int) (dC, dI) (tysA cB cI cJ cZ cS) as 0 (mwS cB cI cJ cZ h a s) [(0, .ref h), (1, .int x1)] [] (fun x u => x = r ∧ u = (mwS cB cI cJ cZ h a s')) := by
  intro p e s0 m below meth c A E H locs ls hP hD hS hl
  obtain ⟨C, hr, hlocks, hA, hK, hN⟩ := id E
  obtain ⟨hx, hb, hml, hown, hts⟩ := id C
  unfold r_bounded at hB
  refine lv_aload_n hx hb dX11_bounded_0 rfl (lv_at hl 0 rfl) ?_
  refine q_get (v := .int (s.v 13)) C inX11_bounded_X11 hK hP 0 rfl rfl 13 (by decide) rfl LX11_bounded_185 rfl dX11_bounded_1 ?_
  refine lv_if_gt (tgt := 15) hx hb dX11_bounded_4 (by decide) (fun c1 => ?_) (fun c1 => ?_)
  · have hB := if_p hB c1
    exact br_bounded_15 _ hB p e s0 m below meth c A E H locs ls hP hD hS (lv_sub hl [0] rfl)
  · have hB := if_n hB c1
    refine lv_aload_n hx hb dX11_bounded_7 rfl (lv_at hl 0 rfl) ?_
    refine lv_iconst (v := 2) hx hb dX11_bounded_8 (by decide) ?_
    obtain ⟨q_, s2, hc, hB⟩ := bindI_inv hB
    refine q_goiF (va_runV (As := [.int 2]) (rest := []) C (cr_is hc _) (cwV 1 hts gX11_bounded_X11_is rfl rfl rfl (by decide +kernel) ⟨Nat.le_of_ble_eq_true rfl, Nat.le_of_ble_eq_true rfl⟩) (q_preV hK hP (ci := 11) (q0 := 0) rfl rfl rfl (q_preF hN hK hP hD)) rfl rfl hl.1 rfl (lv_room (Nat.le_of_ble_eq_true rfl)) dX11_bounded_9 ⟨Nat.le_of_ble_eq_true rfl, Nat.le_of_ble_eq_true rfl⟩) hD hS hA (fun r3 w1 H locs hw hP hD hS => ?_)
    obtain ⟨hq_, hw⟩ := hw; subst hw; subst hq_
    refine lv_if_ne (tgt := 22) hx hb dX11_bounded_12 (by decide) (fun c4 => ?_) (fun c4 => ?_)
    · have hB := if_n hB c4
      refine lv_aload_n hx hb dX11_bounded_22 rfl (lv_at hl 0 rfl) ?_
      refine q_get (v := .ref (a 7)) C inX11_bounded_X11 hK hP 0 rfl rfl 7 (by decide) rfl LX11_bounded_27 rfl dX11_bounded_23 ?_
      refine lv_aload_n hx hb dX11_bounded_26 rfl (lv_at hl 0 rfl) ?_
      refine q_get (v := .int (s2.v 11)) C inX11_bounded_X11 hK hP 0 rfl rfl 11 (by decide) rfl LX11_bounded_188 rfl dX11_bounded_27 ?_
      obtain ⟨g5, hB⟩ := guard_inv hB
      refine q_iald (x := (s2.f 7 (Int32.toNatClampNeg (s2.v 11)))) C hK hP 5 1 rfl rfl (vpb_in g5) dX11_bounded_30 rfl ?_
      refine lv_istore_n (lv' := [(2, .int (s2.f 7 (Int32.toNatClampNeg (s2.v 11)))), (0, .ref h), (1, .int x1)]) hx hb dX11_bounded_31 rfl hl (by decide) rfl (fun ls hl => ?_)
      refine lv_iload_n hx hb dX11_bounded_32 rfl (lv_at hl 0 rfl) ?_
      refine lv_iload_n hx hb dX11_bounded_33 rfl (lv_at hl 2 rfl) ?_
      refine lv_icmp_le (tgt := 46) hx hb dX11_bounded_34 (by decide) (fun c6 => ?_) (fun c6 => ?_)
      · have hB := if_p hB c6
        exact br_bounded_46 _ _ hB p e s0 m below meth c A E H locs ls hP hD hS (lv_sub hl [1, 0] rfl)
      · have hB := if_n hB c6
        refine lv_aload_n hx hb dX11_bounded_37 rfl (lv_at hl 1 rfl) ?_
        refine lv_iconst (v := 5) hx hb dX11_bounded_38 (by decide) ?_
        refine lv_aload_n hx hb dX11_bounded_39 rfl (lv_at hl 1 rfl) ?_
        refine q_get (v := .int (s2.v 11)) C inX11_bounded_X11 hK hP 0 rfl rfl 11 (by decide) rfl LX11_bounded_188 rfl dX11_bounded_40 ?_
        obtain ⟨s7, hc, hB⟩ := bindP_inv hB
        refine q_govF (va_runV (As := [.int 5, .int (s2.v 11)]) (rest := []) C (cr_wrong hc _) (cwV 2 hts gX11_bounded_X11_wrong rfl rfl rfl (by decide +kernel) ⟨Nat.le_of_ble_eq_true rfl, Nat.le_of_ble_eq_true rfl⟩) (q_preV hK hP (ci := 11) (q0 := 0) rfl rfl rfl (q_preF hN hK hP hD)) rfl rfl hl.1 rfl (lv_room (Nat.le_of_ble_eq_true rfl)) dX11_bounded_43 ⟨Nat.le_of_ble_eq_true rfl, Nat.le_of_ble_eq_true rfl⟩) hD hS hA (fun w1 H locs hw hP hD hS => ?_)
        subst hw
        exact br_bounded_46 _ _ hB p e s0 m below meth c A E H locs ls hP hD hS (lv_sub hl [1, 0] rfl)
    · have hB := if_p hB c4
      exact br_bounded_15 _ hB p e s0 m below meth c A E H locs ls hP hD hS (lv_sub hl [0] rfl)
theorem cr_bounded {l : Launch} {dC : Nat → ClassId} {dI : Nat → Nat → Nat} {cB cI cJ cZ cS : ClassId} {h : Nat} {a : Nat → Nat} {r : Int32} {s' : RS} {s : RS} {x1 : Int32} (hB : r_bounded s x1 = some (r, s')) : CI l yX11_bounded wsX11_bounded ({ frames := 2, cells := 0, slots := 0, locals := 41 }) (dC, dI) (tysA cB cI cJ cZ cS) (mwS cB cI cJ cZ h a s) [.ref h, .int x1] (fun x u => x = r ∧ u = (mwS cB cI cJ cZ h a s')) :=
  CI_of (cc := cX11_bounded) (maxL := 3) (ret := (some .int)) (by decide) rfl (Nat.le_of_ble_eq_true rfl) (br_bounded _ _ hB)
theorem LX11_tellWave_185 : Cond.fieldLink RX11 185 "GuessFerryModel" "fault" "I" ∈ wsX11_tellWave := (List.mem_cons_of_mem _ (List.mem_append_left _ (List.mem_append_left _ (List.mem_of_getElem? (i := 4) rfl))))
theorem LX11_tellWave_188 : Cond.fieldLink RX11 188 "GuessFerryModel" "t" "I" ∈ wsX11_tellWave := (List.mem_cons_of_mem _ (List.mem_append_left _ (List.mem_append_left _ (List.mem_of_getElem? (i := 2) rfl))))
theorem LX11_tellWave_218 : Cond.fieldLink RX11 218 "GuessFerryModel" "side" "I" ∈ wsX11_tellWave := (List.mem_cons_of_mem _ (List.mem_append_left _ (List.mem_append_left _ (List.mem_of_getElem? (i := 0) rfl))))
theorem LX11_tellWave_40 : Cond.fieldLink RX11 40 "GuessFerryModel" "waves" "[I" ∈ wsX11_tellWave := (List.mem_cons_of_mem _ (List.mem_append_left _ (List.mem_append_left _ (List.mem_of_getElem? (i := 1) rfl))))
theorem LX11_tellWave_43 : Cond.fieldLink RX11 43 "GuessFerryModel" "oddsOf" "[I" ∈ wsX11_tellWave := (List.mem_cons_of_mem _ (List.mem_append_left _ (List.mem_append_left _ (List.mem_of_getElem? (i := 3) rfl))))
theorem inX11_tellWave_X11 : ∀ w ∈ u_ws RX11 TX11 58, w ∈ wsX11_tellWave := fun w h => (List.mem_cons_of_mem _ (List.mem_append_right _ h))
set_option maxHeartbeats 4000000 in
set_option maxRecDepth 100000 in
theorem br_tellWave_93 {l : Launch} {dC : Nat → ClassId} {dI : Nat → Nat → Nat} {cB cI cJ cZ cS : ClassId} {h : Nat} {a : Nat → Nat} {as : List Value} {s' : RS} (s : RS) (hB : r_tellWave_93 s = some s') : BlkV l yX11_tellWave wsX11_tellWave ({ frames := 3, cells := 0, slots := 0, locals := 63 }) cX11_tellWave 5 none (dC, dI) (tysA cB cI cJ cZ cS) as 93 (mwS cB cI cJ cZ h a s) [(0, .ref h)] [] (fun u => u = (mwS cB cI cJ cZ h a s')) := by
  intro p e s0 m below meth c A E H locs ls hP hD hS hl
  obtain ⟨C, hr, hlocks, hA, hK, hN⟩ := id E
  obtain ⟨hx, hb, hml, hown, hts⟩ := id C
  unfold r_tellWave_93 at hB
  refine lv_aload_n hx hb dX11_tellWave_93 rfl (lv_at hl 0 rfl) ?_
  refine lv_iconst (v := 4) hx hb dX11_tellWave_94 (by decide) ?_
  obtain ⟨s1, hc, hB⟩ := bindP_inv hB
  refine q_govF (va_runV (As := [.int 4]) (rest := []) C (cr_must hc _) (cwV 1 hts gX11_tellWave_X11_must rfl rfl rfl (by decide +kernel) ⟨Nat.le_of_ble_eq_true rfl, Nat.le_of_ble_eq_true rfl⟩) (q_preV hK hP (ci := 11) (q0 := 0) rfl rfl rfl (q_preF hN hK hP hD)) rfl rfl hl.1 rfl (lv_room (Nat.le_of_ble_eq_true rfl)) dX11_tellWave_95 ⟨Nat.le_of_ble_eq_true rfl, Nat.le_of_ble_eq_true rfl⟩) hD hS hA (fun w1 H locs hw hP hD hS => ?_)
  subst hw
  refine lv_aload_n hx hb dX11_tellWave_98 rfl (lv_at hl 0 rfl) ?_
  refine q_get (v := .ref (a 20)) C inX11_tellWave_X11 hK hP 0 rfl rfl 20 (by decide) rfl LX11_tellWave_40 rfl dX11_tellWave_99 ?_
  refine lv_aload_n hx hb dX11_tellWave_102 rfl (lv_at hl 0 rfl) ?_
  refine q_get (v := .int (s1.v 19)) C inX11_tellWave_X11 hK hP 0 rfl rfl 19 (by decide) rfl LX11_tellWave_218 rfl dX11_tellWave_103 ?_
  refine lv_dup2_11 hx hb dX11_tellWave_106 rfl rfl ?_
  obtain ⟨g2, hB⟩ := guard_inv hB
  refine q_iald (x := (s1.f 20 (Int32.toNatClampNeg (s1.v 19)))) C hK hP 8 1 rfl rfl (vpb_in g2) dX11_tellWave_107 rfl ?_
  refine lv_iconst (v := 1) hx hb dX11_tellWave_108 (by decide) ?_
  refine lv_iadd hx hb dX11_tellWave_109 ?_
  obtain ⟨g3, hB⟩ := guard_inv hB
  obtain ⟨s4, hs5, hB⟩ := letS_inv hB
  refine q_iast (f2 := (upd (s1.f 20) (Int32.toNatClampNeg (s1.v 19)) ((s1.f 20 (Int32.toNatClampNeg (s1.v 19))) + 1))) (w2 := (mwS cB cI cJ cZ h a s4)) C hK hP hD hS 8 1 rfl rfl (vpb_in g3) dX11_tellWave_110 rfl (mwS_f20 hs5) (fun H locs hP hD hS => ?_)
  exact q_vret C hr hlocks hK hP hD hS (Nat.le_of_ble_eq_true rfl) (Nat.le_of_ble_eq_true rfl) dX11_tellWave_111 (by cases hB; rfl)
set_option maxHeartbeats 4000000 in
set_option maxRecDepth 100000 in
theorem br_tellWave_31 {l : Launch} {dC : Nat → ClassId} {dI : Nat → Nat → Nat} {cB cI cJ cZ cS : ClassId} {h : Nat} {a : Nat → Nat} {as : List Value} {s' : RS} {k31 : RS → Int32 → Int32 → Int32 → Int32 → Option RS} (hk31 : ∀ (s : RS) (x1 : Int32) (x2 : Int32) (x3 : Int32) (x4 : Int32), k31 s x1 x2 x3 x4 = some s' → BlkV l yX11_tellWave wsX11_tellWave ({ frames := 3, cells := 0, slots := 0, locals := 63 }) cX11_tellWave 5 none (dC, dI) (tysA cB cI cJ cZ cS) as 31 (mwS cB cI cJ cZ h a s) [(0, .ref h), (1, .int x1), (2, .int x2), (3, .int x3), (4, .int x4)] [] (fun u => u = (mwS cB cI cJ cZ h a s'))) (s : RS) (x1 : Int32) (x2 : Int32) (x3 : Int32) (x4 : Int32) (hB : r_tellWave_31 k31 s x1 x2 x3 x4 = some s') : BlkV l yX11_tellWave wsX11_tellWave ({ frames := 3, cells := 0, slots := 0, locals := 63 }) cX11_tellWave 5 none (dC, dI) (tysA cB cI cJ cZ cS) as 31 (mwS cB cI cJ cZ h a s) [(0, .ref h), (1, .int x1), (2, .int x2), (3, .int x3), (4, .int x4)] [] (fun u => u = (mwS cB cI cJ cZ h a s')) := by
  intro p e s0 m below meth c A E H locs ls hP hD hS hl
  obtain ⟨C, hr, hlocks, hA, hK, hN⟩ := id E
  obtain ⟨hx, hb, hml, hown, hts⟩ := id C
  unfold r_tellWave_31 at hB
  refine lv_iload hx hb dX11_tellWave_31 (lv_at hl 4 rfl) ?_
  refine lv_bipush (v := 6) hx hb dX11_tellWave_33 (by decide) ?_
  refine lv_icmp_ge (tgt := 76) hx hb dX11_tellWave_35 (by decide) (fun c1 => ?_) (fun c1 => ?_)
  · have hB := if_p hB c1
    refine lv_aload_n hx hb dX11_tellWave_76 rfl (lv_at hl 0 rfl) ?_
    refine q_get (v := .int (s.v 13)) C inX11_tellWave_X11 hK hP 0 rfl rfl 13 (by decide) rfl LX11_tellWave_185 rfl dX11_tellWave_77 ?_
    refine lv_if_ne (tgt := 93) hx hb dX11_tellWave_80 (by decide) (fun c2 => ?_) (fun c2 => ?_)
    · have hB := if_n hB c2
      exact br_tellWave_93 _ hB p e s0 m below meth c A E H locs ls hP hD hS (lv_sub hl [0] rfl)
    · have hB := if_p hB c2
      refine lv_iload_n hx hb dX11_tellWave_83 rfl (lv_at hl 2 rfl) ?_
      refine lv_if_ne (tgt := 93) hx hb dX11_tellWave_84 (by decide) (fun c3 => ?_) (fun c3 => ?_)
      · have hB := if_n hB c3
        exact br_tellWave_93 _ hB p e s0 m below meth c A E H locs ls hP hD hS (lv_sub hl [0] rfl)
      · have hB := if_p hB c3
        refine lv_aload_n hx hb dX11_tellWave_87 rfl (lv_at hl 0 rfl) ?_
        refine lv_iconst (v := 5) hx hb dX11_tellWave_88 (by decide) ?_
        refine lv_iload_n hx hb dX11_tellWave_89 rfl (lv_at hl 3 rfl) ?_
        obtain ⟨s4, hc, hB⟩ := bindP_inv hB
        refine q_govF (va_runV (As := [.int 5, .int x3]) (rest := []) C (cr_wrong hc _) (cwV 2 hts gX11_tellWave_X11_wrong rfl rfl rfl (by decide +kernel) ⟨Nat.le_of_ble_eq_true rfl, Nat.le_of_ble_eq_true rfl⟩) (q_preV hK hP (ci := 11) (q0 := 0) rfl rfl rfl (q_preF hN hK hP hD)) rfl rfl hl.1 rfl (lv_room (Nat.le_of_ble_eq_true rfl)) dX11_tellWave_90 ⟨Nat.le_of_ble_eq_true rfl, Nat.le_of_ble_eq_true rfl⟩) hD hS hA (fun w1 H locs hw hP hD hS => ?_)
        subst hw
        exact br_tellWave_93 _ hB p e s0 m below meth c A E H locs ls hP hD hS (lv_sub hl [0] rfl)
  · have hB := if_n hB c1
    refine lv_aload_n hx hb dX11_tellWave_38 rfl (lv_at hl 0 rfl) ?_
    refine q_get (v := .int (s.v 11)) C inX11_tellWave_X11 hK hP 0 rfl rfl 11 (by decide) rfl LX11_tellWave_188 rfl dX11_tellWave_39 ?_
    refine lv_istore_n (lv' := [(3, .int (s.v 11)), (0, .ref h), (1, .int x1), (2, .int x2), (4, .int x4)]) hx hb dX11_tellWave_42 rfl hl (by decide) rfl (fun ls hl => ?_)
    refine lv_aload_n hx hb dX11_tellWave_43 rfl (lv_at hl 1 rfl) ?_
    refine q_get (v := .ref (a 21)) C inX11_tellWave_X11 hK hP 0 rfl rfl 21 (by decide) rfl LX11_tellWave_43 rfl dX11_tellWave_44 ?_
    refine lv_iload_n hx hb dX11_tellWave_47 rfl (lv_at hl 2 rfl) ?_
    refine lv_iload hx hb dX11_tellWave_48 (lv_at hl 4 rfl) ?_
    refine lv_iadd hx hb dX11_tellWave_50 ?_
    refine lv_aload_n hx hb dX11_tellWave_51 rfl (lv_at hl 1 rfl) ?_
    refine lv_bipush (v := 9) hx hb dX11_tellWave_52 (by decide) ?_
    obtain ⟨q_, s5, hc, hB⟩ := bindI_inv hB
    refine q_goiF (va_runV (As := [.int 9]) (rest := [.int (x1 + x4), .ref (a 21)]) C (cr_bounded hc _) (cwV 1 hts gX11_tellWave_X11_bounded rfl rfl rfl (by decide +kernel) ⟨Nat.le_of_ble_eq_true rfl, Nat.le_of_ble_eq_true rfl⟩) (q_preV hK hP (ci := 11) (q0 := 0) rfl rfl rfl (q_preF hN hK hP hD)) rfl rfl hl.1 rfl (lv_room (Nat.le_of_ble_eq_true rfl)) dX11_tellWave_54 ⟨Nat.le_of_ble_eq_true rfl, Nat.le_of_ble_eq_true rfl⟩) hD hS hA (fun r6 w1 H locs hw hP hD hS => ?_)
    obtain ⟨hq_, hw⟩ := hw; subst hw; subst hq_
    obtain ⟨g7, hB⟩ := guard_inv hB
    obtain ⟨s8, hs9, hB⟩ := letS_inv hB
    refine q_iast (f2 := (upd (s5.f 21) (Int32.toNatClampNeg (x1 + x4)) r6)) (w2 := (mwS cB cI cJ cZ h a s8)) C hK hP hD hS 9 1 rfl rfl (vpb_in g7) dX11_tellWave_57 rfl (mwS_f21 hs9) (fun H locs hP hD hS => ?_)
    refine lv_iload_n hx hb dX11_tellWave_58 rfl (lv_at hl 3 rfl) ?_
    refine lv_aload_n hx hb dX11_tellWave_59 rfl (lv_at hl 1 rfl) ?_
    refine q_get (v := .ref (a 21)) C inX11_tellWave_X11 hK hP 0 rfl rfl 21 (by decide) rfl LX11_tellWave_43 rfl dX11_tellWave_60 ?_
    refine lv_iload_n hx hb dX11_tellWave_63 rfl (lv_at hl 2 rfl) ?_
    refine lv_iload hx hb dX11_tellWave_64 (lv_at hl 4 rfl) ?_
    refine lv_iadd hx hb dX11_tellWave_66 ?_
    obtain ⟨g10, hB⟩ := guard_inv hB
    refine q_iald (x := (s8.f 21 (Int32.toNatClampNeg (x1 + x4)))) C hK hP 9 1 rfl rfl (vpb_in g10) dX11_tellWave_67 rfl ?_
    refine lv_iadd hx hb dX11_tellWave_68 ?_
    refine lv_istore_n (lv' := [(2, .int (x2 + (s8.f 21 (Int32.toNatClampNeg (x1 + x4))))), (3, .int (s.v 11)), (0, .ref h), (1, .int x1), (4, .int x4)]) hx hb dX11_tellWave_69 rfl hl (by decide) rfl (fun ls hl => ?_)
    refine lv_iinc (v := (x4 + 1)) (lv' := [(4, .int (x4 + 1)), (2, .int (x2 + (s8.f 21 (Int32.toNatClampNeg (x1 + x4))))), (3, .int (s.v 11)), (0, .ref h), (1, .int x1)]) hx hb dX11_tellWave_70 hl (k := 4) rfl (rfl) (by decide) rfl (fun ls hl => ?_)
    refine lv_goto (tgt := 31) hx hb dX11_tellWave_73 (by decide) ?_
    exact hk31 _ _ _ _ _ hB p e s0 m below meth c A E H locs ls hP hD hS (lv_sub hl [3, 4, 1, 2, 0] rfl)
theorem br_tellWave_31L {l : Launch} {dC : Nat → ClassId} {dI : Nat → Nat → Nat} {cB cI cJ cZ cS : ClassId} {h : Nat} {a : Nat → Nat} {as : List Value} {s' : RS} : ∀ (n : Nat) (s : RS) (x1 : Int32) (x2 : Int32) (x3 : Int32) (x4 : Int32), r_tellWave_31L n s x1 x2 x3 x4 = some s' → BlkV l yX11_tellWave wsX11_tellWave ({ frames := 3, cells := 0, slots := 0, locals := 63 }) cX11_tellWave 5 none (dC, dI) (tysA cB cI cJ cZ cS) as 31 (mwS cB cI cJ cZ h a s) [(0, .ref h), (1, .int x1), (2, .int x2), (3, .int x3), (4, .int x4)] [] (fun u => u = (mwS cB cI cJ cZ h a s')) := by
  intro n
  induction n with
  | zero => intro s x1 x2 x3 x4 hB; exact none_ne hB
  | succ n ih => intro s x1 x2 x3 x4 hB; exact br_tellWave_31 ih _ _ _ _ _ hB
set_option maxHeartbeats 4000000 in
set_option maxRecDepth 100000 in
theorem br_tellWave {l : Launch} {dC : Nat → ClassId} {dI : Nat → Nat → Nat} {cB cI cJ cZ cS : ClassId} {h : Nat} {a : Nat → Nat} {as : List Value} {s' : RS} (s : RS) (hB : r_tellWave s = some s') : BlkV l yX11_tellWave wsX11_tellWave ({ frames := 3, cells := 0, slots := 0, locals := 63 }) cX11_tellWave 5 none (dC, dI) (tysA cB cI cJ cZ cS) as 0 (mwS cB cI cJ cZ h a s) [(0, .ref h)] [] (fun u => u = (mwS cB cI cJ cZ h a s')) := by
  intro p e s0 m below meth c A E H locs ls hP hD hS hl
  obtain ⟨C, hr, hlocks, hA, hK, hN⟩ := id E
  obtain ⟨hx, hb, hml, hown, hts⟩ := id C
  unfold r_tellWave at hB
  refine lv_bipush (v := 30) hx hb dX11_tellWave_0 (by decide) ?_
  refine lv_aload_n hx hb dX11_tellWave_2 rfl (lv_at hl 0 rfl) ?_
  refine q_get (v := .int (s.v 19)) C inX11_tellWave_X11 hK hP 0 rfl rfl 19 (by decide) rfl LX11_tellWave_218 rfl dX11_tellWave_3 ?_
  refine lv_imul hx hb dX11_tellWave_6 ?_
  refine lv_bipush (v := 6) hx hb dX11_tellWave_7 (by decide) ?_
  refine lv_aload_n hx hb dX11_tellWave_9 rfl (lv_at hl 0 rfl) ?_
  refine q_get (v := .ref (a 20)) C inX11_tellWave_X11 hK hP 0 rfl rfl 20 (by decide) rfl LX11_tellWave_40 rfl dX11_tellWave_10 ?_
  refine lv_aload_n hx hb dX11_tellWave_13 rfl (lv_at hl 0 rfl) ?_
  refine q_get (v := .int (s.v 19)) C inX11_tellWave_X11 hK hP 0 rfl rfl 19 (by decide) rfl LX11_tellWave_218 rfl dX11_tellWave_14 ?_
  obtain ⟨g1, hB⟩ := guard_inv hB
  refine q_iald (x := (s.f 20 (Int32.toNatClampNeg (s.v 19)))) C hK hP 8 1 rfl rfl (vpb_in g1) dX11_tellWave_17 rfl ?_
  refine lv_imul hx hb dX11_tellWave_18 ?_
  refine lv_iadd hx hb dX11_tellWave_19 ?_
  refine lv_istore_n (lv' := [(1, .int ((30 * (s.v 19)) + (6 * (s.f 20 (Int32.toNatClampNeg (s.v 19)))))), (0, .ref h)]) hx hb dX11_tellWave_20 rfl hl (by decide) rfl (fun ls hl => ?_)
  refine lv_iconst (v := 0) hx hb dX11_tellWave_21 (by decide) ?_
  refine lv_istore_n (lv' := [(2, .int 0), (1, .int ((30 * (s.v 19)) + (6 * (s.f 20 (Int32.toNatClampNeg (s.v 19)))))), (0, .ref h)]) hx hb dX11_tellWave_22 rfl hl (by decide) rfl (fun ls hl => ?_)
  refine lv_aload_n hx hb dX11_tellWave_23 rfl (lv_at hl 2 rfl) ?_
  refine q_get (v := .int (s.v 11)) C inX11_tellWave_X11 hK hP 0 rfl rfl 11 (by decide) rfl LX11_tellWave_188 rfl dX11_tellWave_24 ?_
  refine lv_istore_n (lv' := [(3, .int (s.v 11)), (2, .int 0), (1, .int ((30 * (s.v 19)) + (6 * (s.f 20 (Int32.toNatClampNeg (s.v 19)))))), (0, .ref h)]) hx hb dX11_tellWave_27 rfl hl (by decide) rfl (fun ls hl => ?_)
  refine lv_iconst (v := 0) hx hb dX11_tellWave_28 (by decide) ?_
  refine lv_istore (lv' := [(4, .int 0), (3, .int (s.v 11)), (2, .int 0), (1, .int ((30 * (s.v 19)) + (6 * (s.f 20 (Int32.toNatClampNeg (s.v 19)))))), (0, .ref h)]) hx hb dX11_tellWave_29 hl (by decide) rfl (fun ls hl => ?_)
  exact br_tellWave_31L fu _ _ _ _ _ hB p e s0 m below meth c A E H locs ls hP hD hS (lv_sub hl [4, 3, 2, 1, 0] rfl)
theorem cr_tellWave {l : Launch} {dC : Nat → ClassId} {dI : Nat → Nat → Nat} {cB cI cJ cZ cS : ClassId} {h : Nat} {a : Nat → Nat} {s' : RS} {s : RS} (hB : r_tellWave s = some s') : CV l yX11_tellWave wsX11_tellWave ({ frames := 3, cells := 0, slots := 0, locals := 63 }) (dC, dI) (tysA cB cI cJ cZ cS) (mwS cB cI cJ cZ h a s) [.ref h] (fun u => u = (mwS cB cI cJ cZ h a s')) :=
  CV_of (cc := cX11_tellWave) (maxL := 5) (ret := none) (by decide) rfl (Nat.le_of_ble_eq_true rfl) (br_tellWave _ hB)
theorem LX11_tellParty_185 : Cond.fieldLink RX11 185 "GuessFerryModel" "fault" "I" ∈ wsX11_tellParty := (List.mem_cons_of_mem _ (List.mem_append_left _ (List.mem_append_left _ (List.mem_of_getElem? (i := 3) rfl))))
theorem LX11_tellParty_188 : Cond.fieldLink RX11 188 "GuessFerryModel" "t" "I" ∈ wsX11_tellParty := (List.mem_cons_of_mem _ (List.mem_append_left _ (List.mem_append_left _ (List.mem_of_getElem? (i := 2) rfl))))
theorem LX11_tellParty_218 : Cond.fieldLink RX11 218 "GuessFerryModel" "side" "I" ∈ wsX11_tellParty := (List.mem_cons_of_mem _ (List.mem_append_left _ (List.mem_append_left _ (List.mem_of_getElem? (i := 0) rfl))))
theorem LX11_tellParty_30 : Cond.fieldLink RX11 30 "GuessFerryModel" "tName" "[J" ∈ wsX11_tellParty := (List.mem_cons_of_mem _ (List.mem_append_left _ (List.mem_append_left _ (List.mem_of_getElem? (i := 5) rfl))))
theorem LX11_tellParty_46 : Cond.fieldLink RX11 46 "GuessFerryModel" "nameOf" "[J" ∈ wsX11_tellParty := (List.mem_cons_of_mem _ (List.mem_append_left _ (List.mem_append_left _ (List.mem_of_getElem? (i := 4) rfl))))
theorem LX11_tellParty_49 : Cond.fieldLink RX11 49 "GuessFerryModel" "parties" "[I" ∈ wsX11_tellParty := (List.mem_cons_of_mem _ (List.mem_append_left _ (List.mem_append_left _ (List.mem_of_getElem? (i := 1) rfl))))
theorem LX11_tellParty_52 : Cond.fieldLink RX11 52 "GuessFerryModel" "heavyOf" "[I" ∈ wsX11_tellParty := (List.mem_cons_of_mem _ (List.mem_append_left _ (List.mem_append_left _ (List.mem_of_getElem? (i := 6) rfl))))
theorem LX11_tellParty_55 : Cond.fieldLink RX11 55 "GuessFerryModel" "nerveOf" "[I" ∈ wsX11_tellParty := (List.mem_cons_of_mem _ (List.mem_append_left _ (List.mem_append_left _ (List.mem_of_getElem? (i := 7) rfl))))
theorem inX11_tellParty_X11 : ∀ w ∈ u_ws RX11 TX11 58, w ∈ wsX11_tellParty := fun w h => (List.mem_cons_of_mem _ (List.mem_append_right _ h))
set_option maxHeartbeats 4000000 in
set_option maxRecDepth 100000 in
theorem br_tellParty_78 {l : Launch} {dC : Nat → ClassId} {dI : Nat → Nat → Nat} {cB cI cJ cZ cS : ClassId} {h : Nat} {a : Nat → Nat} {as : List Value} {s' : RS} (s : RS) (x1 : Int32) (x2 : Int32) (hB : r_tellParty_78 s x1 x2 = some s') : BlkV l yX11_tellParty wsX11_tellParty ({ frames := 3, cells := 0, slots := 0, locals := 63 }) cX11_tellParty 4 none (dC, dI) (tysA cB cI cJ cZ cS) as 78 (mwS cB cI cJ cZ h a s) [(0, .ref h), (1, .int x1), (2, .int x2)] [] (fun u => u = (mwS cB cI cJ cZ h a s')) := by
  intro p e s0 m below meth c A E H locs ls hP hD hS hl
  obtain ⟨C, hr, hlocks, hA, hK, hN⟩ := id E
  obtain ⟨hx, hb, hml, hown, hts⟩ := id C
  unfold r_tellParty_78 at hB
  refine lv_aload_n hx hb dX11_tellParty_78 rfl (lv_at hl 0 rfl) ?_
  refine q_get (v := .ref (a 24)) C inX11_tellParty_X11 hK hP 0 rfl rfl 24 (by decide) rfl LX11_tellParty_52 rfl dX11_tellParty_79 ?_
  refine lv_iload_n hx hb dX11_tellParty_82 rfl (lv_at hl 1 rfl) ?_
  refine lv_aload_n hx hb dX11_tellParty_83 rfl (lv_at hl 0 rfl) ?_
  refine lv_bipush (v := 9) hx hb dX11_tellParty_84 (by decide) ?_
  obtain ⟨q_, s1, hc, hB⟩ := bindI_inv hB
  refine q_goiF (va_runV (As := [.int 9]) (rest := [.int x1, .ref (a 24)]) C (cr_bounded hc _) (cwV 1 hts gX11_tellParty_X11_bounded rfl rfl rfl (by decide +kernel) ⟨Nat.le_of_ble_eq_true rfl, Nat.le_of_ble_eq_true rfl⟩) (q_preV hK hP (ci := 11) (q0 := 0) rfl rfl rfl (q_preF hN hK hP hD)) rfl rfl hl.1 rfl (lv_room (Nat.le_of_ble_eq_true rfl)) dX11_tellParty_86 ⟨Nat.le_of_ble_eq_true rfl, Nat.le_of_ble_eq_true rfl⟩) hD hS hA (fun r2 w1 H locs hw hP hD hS => ?_)
  obtain ⟨hq_, hw⟩ := hw; subst hw; subst hq_
  obtain ⟨g3, hB⟩ := guard_inv hB
  obtain ⟨s4, hs5, hB⟩ := letS_inv hB
  refine q_iast (f2 := (upd (s1.f 24) (Int32.toNatClampNeg x1) r2)) (w2 := (mwS cB cI cJ cZ h a s4)) C hK hP hD hS 12 1 rfl rfl (vpb_in g3) dX11_tellParty_89 rfl (mwS_f24 hs5) (fun H locs hP hD hS => ?_)
  refine lv_aload_n hx hb dX11_tellParty_90 rfl (lv_at hl 0 rfl) ?_
  refine q_get (v := .ref (a 25)) C inX11_tellParty_X11 hK hP 0 rfl rfl 25 (by decide) rfl LX11_tellParty_55 rfl dX11_tellParty_91 ?_
  refine lv_iload_n hx hb dX11_tellParty_94 rfl (lv_at hl 1 rfl) ?_
  refine lv_aload_n hx hb dX11_tellParty_95 rfl (lv_at hl 0 rfl) ?_
  refine lv_bipush (v := 9) hx hb dX11_tellParty_96 (by decide) ?_
  obtain ⟨q_, s6, hc, hB⟩ := bindI_inv hB
  refine q_goiF (va_runV (As := [.int 9]) (rest := [.int x1, .ref (a 25)]) C (cr_bounded hc _) (cwV 1 hts gX11_tellParty_X11_bounded rfl rfl rfl (by decide +kernel) ⟨Nat.le_of_ble_eq_true rfl, Nat.le_of_ble_eq_true rfl⟩) (q_preV hK hP (ci := 11) (q0 := 0) rfl rfl rfl (q_preF hN hK hP hD)) rfl rfl hl.1 rfl (lv_room (Nat.le_of_ble_eq_true rfl)) dX11_tellParty_98 ⟨Nat.le_of_ble_eq_true rfl, Nat.le_of_ble_eq_true rfl⟩) hD hS hA (fun r7 w1 H locs hw hP hD hS => ?_)
  obtain ⟨hq_, hw⟩ := hw; subst hw; subst hq_
  obtain ⟨g8, hB⟩ := guard_inv hB
  obtain ⟨s9, hs10, hB⟩ := letS_inv hB
  refine q_iast (f2 := (upd (s6.f 25) (Int32.toNatClampNeg x1) r7)) (w2 := (mwS cB cI cJ cZ h a s9)) C hK hP hD hS 13 1 rfl rfl (vpb_in g8) dX11_tellParty_101 rfl (mwS_f25 hs10) (fun H locs hP hD hS => ?_)
  refine lv_aload_n hx hb dX11_tellParty_102 rfl (lv_at hl 0 rfl) ?_
  refine lv_iconst (v := 4) hx hb dX11_tellParty_103 (by decide) ?_
  obtain ⟨s11, hc, hB⟩ := bindP_inv hB
  refine q_govF (va_runV (As := [.int 4]) (rest := []) C (cr_must hc _) (cwV 1 hts gX11_tellParty_X11_must rfl rfl rfl (by decide +kernel) ⟨Nat.le_of_ble_eq_true rfl, Nat.le_of_ble_eq_true rfl⟩) (q_preV hK hP (ci := 11) (q0 := 0) rfl rfl rfl (q_preF hN hK hP hD)) rfl rfl hl.1 rfl (lv_room (Nat.le_of_ble_eq_true rfl)) dX11_tellParty_104 ⟨Nat.le_of_ble_eq_true rfl, Nat.le_of_ble_eq_true rfl⟩) hD hS hA (fun w1 H locs hw hP hD hS => ?_)
  subst hw
  refine lv_aload_n hx hb dX11_tellParty_107 rfl (lv_at hl 0 rfl) ?_
  refine q_get (v := .int (s11.v 13)) C inX11_tellParty_X11 hK hP 0 rfl rfl 13 (by decide) rfl LX11_tellParty_185 rfl dX11_tellParty_108 ?_
  refine lv_if_le (tgt := 115) hx hb dX11_tellParty_111 (by decide) (fun c12 => ?_) (fun c12 => ?_)
  · have hB := if_p hB c12
    refine lv_aload_n hx hb dX11_tellParty_115 rfl (lv_at hl 0 rfl) ?_
    refine q_get (v := .ref (a 22)) C inX11_tellParty_X11 hK hP 0 rfl rfl 22 (by decide) rfl LX11_tellParty_46 rfl dX11_tellParty_116 ?_
    refine lv_aload_n hx hb dX11_tellParty_119 rfl (lv_at hl 0 rfl) ?_
    refine q_get (v := .ref (a 23)) C inX11_tellParty_X11 hK hP 0 rfl rfl 23 (by decide) rfl LX11_tellParty_49 rfl dX11_tellParty_120 ?_
    refine lv_aload_n hx hb dX11_tellParty_123 rfl (lv_at hl 0 rfl) ?_
    refine q_get (v := .int (s11.v 19)) C inX11_tellParty_X11 hK hP 0 rfl rfl 19 (by decide) rfl LX11_tellParty_218 rfl dX11_tellParty_124 ?_
    obtain ⟨g13, hB⟩ := guard_inv hB
    refine q_iald (x := (s11.f 23 (Int32.toNatClampNeg (s11.v 19)))) C hK hP 11 1 rfl rfl (vpb_in g13) dX11_tellParty_127 rfl ?_
    refine lv_aload_n hx hb dX11_tellParty_128 rfl (lv_at hl 0 rfl) ?_
    refine q_get (v := .ref (a 8)) C inX11_tellParty_X11 hK hP 0 rfl rfl 8 (by decide) rfl LX11_tellParty_30 rfl dX11_tellParty_129 ?_
    refine lv_iload_n hx hb dX11_tellParty_132 rfl (lv_at hl 2 rfl) ?_
    obtain ⟨g14, hB⟩ := guard_inv hB
    refine q_lald (x := (s11.g 8 (Int32.toNatClampNeg x2))) C hK hP 6 2 rfl rfl (vpb_in g14) dX11_tellParty_133 rfl ?_
    obtain ⟨g15, hB⟩ := guard_inv hB
    obtain ⟨s16, hs17, hB⟩ := letS_inv hB
    refine q_last (f2 := (vp_updL (s11.g 22) (Int32.toNatClampNeg (s11.f 23 (Int32.toNatClampNeg (s11.v 19)))) (s11.g 8 (Int32.toNatClampNeg x2)))) (w2 := (mwS cB cI cJ cZ h a s16)) C hK hP hD hS 10 2 rfl rfl (vpb_in g15) dX11_tellParty_134 rfl (mwS_f22 hs17) (fun H locs hP hD hS => ?_)
    refine lv_aload_n hx hb dX11_tellParty_135 rfl (lv_at hl 0 rfl) ?_
    refine q_get (v := .ref (a 23)) C inX11_tellParty_X11 hK hP 0 rfl rfl 23 (by decide) rfl LX11_tellParty_49 rfl dX11_tellParty_136 ?_
    refine lv_aload_n hx hb dX11_tellParty_139 rfl (lv_at hl 0 rfl) ?_
    refine q_get (v := .int (s16.v 19)) C inX11_tellParty_X11 hK hP 0 rfl rfl 19 (by decide) rfl LX11_tellParty_218 rfl dX11_tellParty_140 ?_
    refine lv_dup2_11 hx hb dX11_tellParty_143 rfl rfl ?_
    obtain ⟨g18, hB⟩ := guard_inv hB
    refine q_iald (x := (s16.f 23 (Int32.toNatClampNeg (s16.v 19)))) C hK hP 11 1 rfl rfl (vpb_in g18) dX11_tellParty_144 rfl ?_
    refine lv_iconst (v := 1) hx hb dX11_tellParty_145 (by decide) ?_
    refine lv_iadd hx hb dX11_tellParty_146 ?_
    obtain ⟨g19, hB⟩ := guard_inv hB
    obtain ⟨s20, hs21, hB⟩ := letS_inv hB
    refine q_iast (f2 := (upd (s16.f 23) (Int32.toNatClampNeg (s16.v 19)) ((s16.f 23 (Int32.toNatClampNeg (s16.v 19))) + 1))) (w2 := (mwS cB cI cJ cZ h a s20)) C hK hP hD hS 11 1 rfl rfl (vpb_in g19) dX11_tellParty_147 rfl (mwS_f23 hs21) (fun H locs hP hD hS => ?_)
    exact q_vret C hr hlocks hK hP hD hS (Nat.le_of_ble_eq_true rfl) (Nat.le_of_ble_eq_true rfl) dX11_tellParty_148 (by cases hB; rfl)
  · have hB := if_n hB c12
    exact q_vret C hr hlocks hK hP hD hS (Nat.le_of_ble_eq_true rfl) (Nat.le_of_ble_eq_true rfl) dX11_tellParty_114 (by cases hB; rfl)
set_option maxHeartbeats 4000000 in
set_option maxRecDepth 100000 in
theorem br_tellParty_72 {l : Launch} {dC : Nat → ClassId} {dI : Nat → Nat → Nat} {cB cI cJ cZ cS : ClassId} {h : Nat} {a : Nat → Nat} {as : List Value} {s' : RS} {k30 : RS → Int32 → Int32 → Int32 → Option RS} (hk30 : ∀ (s : RS) (x1 : Int32) (x2 : Int32) (x3 : Int32), k30 s x1 x2 x3 = some s' → BlkV l yX11_tellParty wsX11_tellParty ({ frames := 3, cells := 0, slots := 0, locals := 63 }) cX11_tellParty 4 none (dC, dI) (tysA cB cI cJ cZ cS) as 30 (mwS cB cI cJ cZ h a s) [(0, .ref h), (1, .int x1), (2, .int x2), (3, .int x3)] [] (fun u => u = (mwS cB cI cJ cZ h a s'))) (s : RS) (x1 : Int32) (x2 : Int32) (x3 : Int32) (hB : r_tellParty_72 k30 s x1 x2 x3 = some s') : BlkV l yX11_tellParty wsX11_tellParty ({ frames := 3, cells := 0, slots := 0, locals := 63 }) cX11_tellParty 4 none (dC, dI) (tysA cB cI cJ cZ cS) as 72 (mwS cB cI cJ cZ h a s) [(0, .ref h), (1, .int x1), (2, .int x2), (3, .int x3)] [] (fun u => u = (mwS cB cI cJ cZ h a s')) := by
  intro p e s0 m below meth c A E H locs ls hP hD hS hl
  obtain ⟨C, hr, hlocks, hA, hK, hN⟩ := id E
  obtain ⟨hx, hb, hml, hown, hts⟩ := id C
  unfold r_tellParty_72 at hB
  refine lv_iinc (v := (x3 + 1)) (lv' := [(3, .int (x3 + 1)), (0, .ref h), (1, .int x1), (2, .int x2)]) hx hb dX11_tellParty_72 hl (k := 3) rfl (rfl) (by decide) rfl (fun ls hl => ?_)
  refine lv_goto (tgt := 30) hx hb dX11_tellParty_75 (by decide) ?_
  exact hk30 _ _ _ _ hB p e s0 m below meth c A E H locs ls hP hD hS (lv_sub hl [1, 2, 3, 0] rfl)
set_option maxHeartbeats 4000000 in
set_option maxRecDepth 100000 in
theorem br_tellParty_30 {l : Launch} {dC : Nat → ClassId} {dI : Nat → Nat → Nat} {cB cI cJ cZ cS : ClassId} {h : Nat} {a : Nat → Nat} {as : List Value} {s' : RS} {k30 : RS → Int32 → Int32 → Int32 → Option RS} (hk30 : ∀ (s : RS) (x1 : Int32) (x2 : Int32) (x3 : Int32), k30 s x1 x2 x3 = some s' → BlkV l yX11_tellParty wsX11_tellParty ({ frames := 3, cells := 0, slots := 0, locals := 63 }) cX11_tellParty 4 none (dC, dI) (tysA cB cI cJ cZ cS) as 30 (mwS cB cI cJ cZ h a s) [(0, .ref h), (1, .int x1), (2, .int x2), (3, .int x3)] [] (fun u => u = (mwS cB cI cJ cZ h a s'))) (s : RS) (x1 : Int32) (x2 : Int32) (x3 : Int32) (hB : r_tellParty_30 k30 s x1 x2 x3 = some s') : BlkV l yX11_tellParty wsX11_tellParty ({ frames := 3, cells := 0, slots := 0, locals := 63 }) cX11_tellParty 4 none (dC, dI) (tysA cB cI cJ cZ cS) as 30 (mwS cB cI cJ cZ h a s) [(0, .ref h), (1, .int x1), (2, .int x2), (3, .int x3)] [] (fun u => u = (mwS cB cI cJ cZ h a s')) := by
  intro p e s0 m below meth c A E H locs ls hP hD hS hl
  obtain ⟨C, hr, hlocks, hA, hK, hN⟩ := id E
  obtain ⟨hx, hb, hml, hown, hts⟩ := id C
  unfold r_tellParty_30 at hB
  refine lv_iload_n hx hb dX11_tellParty_30 rfl (lv_at hl 3 rfl) ?_
  refine lv_aload_n hx hb dX11_tellParty_31 rfl (lv_at hl 0 rfl) ?_
  refine q_get (v := .ref (a 23)) C inX11_tellParty_X11 hK hP 0 rfl rfl 23 (by decide) rfl LX11_tellParty_49 rfl dX11_tellParty_32 ?_
  refine lv_aload_n hx hb dX11_tellParty_35 rfl (lv_at hl 0 rfl) ?_
  refine q_get (v := .int (s.v 19)) C inX11_tellParty_X11 hK hP 0 rfl rfl 19 (by decide) rfl LX11_tellParty_218 rfl dX11_tellParty_36 ?_
  obtain ⟨g1, hB⟩ := guard_inv hB
  refine q_iald (x := (s.f 23 (Int32.toNatClampNeg (s.v 19)))) C hK hP 11 1 rfl rfl (vpb_in g1) dX11_tellParty_39 rfl ?_
  refine lv_icmp_ge (tgt := 78) hx hb dX11_tellParty_40 (by decide) (fun c2 => ?_) (fun c2 => ?_)
  · have hB := if_p hB c2
    exact br_tellParty_78 _ _ _ hB p e s0 m below meth c A E H locs ls hP hD hS (lv_sub hl [0, 1, 2] rfl)
  · have hB := if_n hB c2
    refine lv_aload_n hx hb dX11_tellParty_43 rfl (lv_at hl 0 rfl) ?_
    refine q_get (v := .int (s.v 13)) C inX11_tellParty_X11 hK hP 0 rfl rfl 13 (by decide) rfl LX11_tellParty_185 rfl dX11_tellParty_44 ?_
    refine lv_if_ne (tgt := 78) hx hb dX11_tellParty_47 (by decide) (fun c3 => ?_) (fun c3 => ?_)
    · have hB := if_n hB c3
      exact br_tellParty_78 _ _ _ hB p e s0 m below meth c A E H locs ls hP hD hS (lv_sub hl [0, 1, 2] rfl)
    · have hB := if_p hB c3
      refine lv_aload_n hx hb dX11_tellParty_50 rfl (lv_at hl 0 rfl) ?_
      refine q_get (v := .ref (a 22)) C inX11_tellParty_X11 hK hP 0 rfl rfl 22 (by decide) rfl LX11_tellParty_46 rfl dX11_tellParty_51 ?_
      refine lv_iload_n hx hb dX11_tellParty_54 rfl (lv_at hl 3 rfl) ?_
      obtain ⟨g4, hB⟩ := guard_inv hB
      refine q_lald (x := (s.g 22 (Int32.toNatClampNeg x3))) C hK hP 10 2 rfl rfl (vpb_in g4) dX11_tellParty_55 rfl ?_
      refine lv_aload_n hx hb dX11_tellParty_56 rfl (lv_at hl 0 rfl) ?_
      refine q_get (v := .ref (a 8)) C inX11_tellParty_X11 hK hP 0 rfl rfl 8 (by decide) rfl LX11_tellParty_30 rfl dX11_tellParty_57 ?_
      refine lv_iload_n hx hb dX11_tellParty_60 rfl (lv_at hl 2 rfl) ?_
      obtain ⟨g5, hB⟩ := guard_inv hB
      refine q_lald (x := (s.g 8 (Int32.toNatClampNeg x2))) C hK hP 6 2 rfl rfl (vpb_in g5) dX11_tellParty_61 rfl ?_
      refine W.lcmp hx hb dX11_tellParty_62 ?_
      refine lv_if_ne (tgt := 72) hx hb dX11_tellParty_63 (by decide) (fun c6 => ?_) (fun c6 => ?_)
      · have hB := if_n hB c6
        exact br_tellParty_72 (hk30) _ _ _ _ hB p e s0 m below meth c A E H locs ls hP hD hS (lv_sub hl [0, 1, 2, 3] rfl)
      · have hB := if_p hB c6
        refine lv_aload_n hx hb dX11_tellParty_66 rfl (lv_at hl 0 rfl) ?_
        refine lv_iconst (v := 3) hx hb dX11_tellParty_67 (by decide) ?_
        refine lv_iload_n hx hb dX11_tellParty_68 rfl (lv_at hl 2 rfl) ?_
        obtain ⟨s7, hc, hB⟩ := bindP_inv hB
        refine q_govF (va_runV (As := [.int 3, .int x2]) (rest := []) C (cr_wrong hc _) (cwV 2 hts gX11_tellParty_X11_wrong rfl rfl rfl (by decide +kernel) ⟨Nat.le_of_ble_eq_true rfl, Nat.le_of_ble_eq_true rfl⟩) (q_preV hK hP (ci := 11) (q0 := 0) rfl rfl rfl (q_preF hN hK hP hD)) rfl rfl hl.1 rfl (lv_room (Nat.le_of_ble_eq_true rfl)) dX11_tellParty_69 ⟨Nat.le_of_ble_eq_true rfl, Nat.le_of_ble_eq_true rfl⟩) hD hS hA (fun w1 H locs hw hP hD hS => ?_)
        subst hw
        exact br_tellParty_72 (hk30) _ _ _ _ hB p e s0 m below meth c A E H locs ls hP hD hS (lv_sub hl [0, 1, 2, 3] rfl)
theorem br_tellParty_30L {l : Launch} {dC : Nat → ClassId} {dI : Nat → Nat → Nat} {cB cI cJ cZ cS : ClassId} {h : Nat} {a : Nat → Nat} {as : List Value} {s' : RS} : ∀ (n : Nat) (s : RS) (x1 : Int32) (x2 : Int32) (x3 : Int32), r_tellParty_30L n s x1 x2 x3 = some s' → BlkV l yX11_tellParty wsX11_tellParty ({ frames := 3, cells := 0, slots := 0, locals := 63 }) cX11_tellParty 4 none (dC, dI) (tysA cB cI cJ cZ cS) as 30 (mwS cB cI cJ cZ h a s) [(0, .ref h), (1, .int x1), (2, .int x2), (3, .int x3)] [] (fun u => u = (mwS cB cI cJ cZ h a s')) := by
  intro n
  induction n with
  | zero => intro s x1 x2 x3 hB; exact none_ne hB
  | succ n ih => intro s x1 x2 x3 hB; exact br_tellParty_30 ih _ _ _ _ hB
set_option maxHeartbeats 4000000 in
set_option maxRecDepth 100000 in
theorem br_tellParty {l : Launch} {dC : Nat → ClassId} {dI : Nat → Nat → Nat} {cB cI cJ cZ cS : ClassId} {h : Nat} {a : Nat → Nat} {as : List Value} {s' : RS} (s : RS) (hB : r_tellParty s = some s') : BlkV l yX11_tellParty wsX11_tellParty ({ frames := 3, cells := 0, slots := 0, locals := 63 }) cX11_tellParty 4 none (dC, dI) (tysA cB cI cJ cZ cS) as 0 (mwS cB cI cJ cZ h a s) [(0, .ref h)] [] (fun u => u = (mwS cB cI cJ cZ h a s')) := by
  intro p e s0 m below meth c A E H locs ls hP hD hS hl
  obtain ⟨C, hr, hlocks, hA, hK, hN⟩ := id E
  obtain ⟨hx, hb, hml, hown, hts⟩ := id C
  unfold r_tellParty at hB
  refine lv_bipush (v := 6) hx hb dX11_tellParty_0 (by decide) ?_
  refine lv_aload_n hx hb dX11_tellParty_2 rfl (lv_at hl 0 rfl) ?_
  refine q_get (v := .int (s.v 19)) C inX11_tellParty_X11 hK hP 0 rfl rfl 19 (by decide) rfl LX11_tellParty_218 rfl dX11_tellParty_3 ?_
  refine lv_imul hx hb dX11_tellParty_6 ?_
  refine lv_aload_n hx hb dX11_tellParty_7 rfl (lv_at hl 0 rfl) ?_
  refine q_get (v := .ref (a 23)) C inX11_tellParty_X11 hK hP 0 rfl rfl 23 (by decide) rfl LX11_tellParty_49 rfl dX11_tellParty_8 ?_
  refine lv_aload_n hx hb dX11_tellParty_11 rfl (lv_at hl 0 rfl) ?_
  refine q_get (v := .int (s.v 19)) C inX11_tellParty_X11 hK hP 0 rfl rfl 19 (by decide) rfl LX11_tellParty_218 rfl dX11_tellParty_12 ?_
  obtain ⟨g1, hB⟩ := guard_inv hB
  refine q_iald (x := (s.f 23 (Int32.toNatClampNeg (s.v 19)))) C hK hP 11 1 rfl rfl (vpb_in g1) dX11_tellParty_15 rfl ?_
  refine lv_iadd hx hb dX11_tellParty_16 ?_
  refine lv_istore_n (lv' := [(1, .int ((6 * (s.v 19)) + (s.f 23 (Int32.toNatClampNeg (s.v 19))))), (0, .ref h)]) hx hb dX11_tellParty_17 rfl hl (by decide) rfl (fun ls hl => ?_)
  refine lv_aload_n hx hb dX11_tellParty_18 rfl (lv_at hl 1 rfl) ?_
  refine q_get (v := .int (s.v 11)) C inX11_tellParty_X11 hK hP 0 rfl rfl 11 (by decide) rfl LX11_tellParty_188 rfl dX11_tellParty_19 ?_
  refine lv_istore_n (lv' := [(2, .int (s.v 11)), (1, .int ((6 * (s.v 19)) + (s.f 23 (Int32.toNatClampNeg (s.v 19))))), (0, .ref h)]) hx hb dX11_tellParty_22 rfl hl (by decide) rfl (fun ls hl => ?_)
  refine lv_aload_n hx hb dX11_tellParty_23 rfl (lv_at hl 2 rfl) ?_
  refine lv_iconst (v := 1) hx hb dX11_tellParty_24 (by decide) ?_
  obtain ⟨s2, hc, hB⟩ := bindP_inv hB
  refine q_govF (va_runV (As := [.int 1]) (rest := []) C (cr_must hc _) (cwV 1 hts gX11_tellParty_X11_must rfl rfl rfl (by decide +kernel) ⟨Nat.le_of_ble_eq_true rfl, Nat.le_of_ble_eq_true rfl⟩) (q_preV hK hP (ci := 11) (q0 := 0) rfl rfl rfl (q_preF hN hK hP hD)) rfl rfl hl.1 rfl (lv_room (Nat.le_of_ble_eq_true rfl)) dX11_tellParty_25 ⟨Nat.le_of_ble_eq_true rfl, Nat.le_of_ble_eq_true rfl⟩) hD hS hA (fun w1 H locs hw hP hD hS => ?_)
  subst hw
  refine lv_iconst (v := 0) hx hb dX11_tellParty_28 (by decide) ?_
  refine lv_istore_n (lv' := [(3, .int 0), (2, .int (s.v 11)), (1, .int ((6 * (s.v 19)) + (s.f 23 (Int32.toNatClampNeg (s.v 19))))), (0, .ref h)]) hx hb dX11_tellParty_29 rfl hl (by decide) rfl (fun ls hl => ?_)
  exact br_tellParty_30L fu _ _ _ _ hB p e s0 m below meth c A E H locs ls hP hD hS (lv_sub hl [3, 2, 1, 0] rfl)
theorem cr_tellParty {l : Launch} {dC : Nat → ClassId} {dI : Nat → Nat → Nat} {cB cI cJ cZ cS : ClassId} {h : Nat} {a : Nat → Nat} {s' : RS} {s : RS} (hB : r_tellParty s = some s') : CV l yX11_tellParty wsX11_tellParty ({ frames := 3, cells := 0, slots := 0, locals := 63 }) (dC, dI) (tysA cB cI cJ cZ cS) (mwS cB cI cJ cZ h a s) [.ref h] (fun u => u = (mwS cB cI cJ cZ h a s')) :=
  CV_of (cc := cX11_tellParty) (maxL := 4) (ret := none) (by decide) rfl (Nat.le_of_ble_eq_true rfl) (br_tellParty _ hB)
end
section
theorem dX11_emit_0 : decode cX11_emit 0 = .ok (.aload_n 0, 1) := dc1_42 (by decide +kernel)
theorem dX11_emit_1 : decode cX11_emit 1 = .ok (.getfield 83, 3) := dcw_180 (by decide +kernel)
theorem dX11_emit_4 : decode cX11_emit 4 = .ok (.aload_n 0, 1) := dc1_42 (by decide +kernel)
theorem dX11_emit_5 : decode cX11_emit 5 = .ok (.getfield 224, 3) := dcw_180 (by decide +kernel)
theorem dX11_emit_8 : decode cX11_emit 8 = .ok (.iload_n 1, 1) := dc1_27 (by decide +kernel)
theorem dX11_emit_9 : decode cX11_emit 9 = .ok (.iastore, 1) := dc1_79 (by decide +kernel)
theorem dX11_emit_10 : decode cX11_emit 10 = .ok (.aload_n 0, 1) := dc1_42 (by decide +kernel)
theorem dX11_emit_11 : decode cX11_emit 11 = .ok (.getfield 86, 3) := dcw_180 (by decide +kernel)
theorem dX11_emit_14 : decode cX11_emit 14 = .ok (.aload_n 0, 1) := dc1_42 (by decide +kernel)
theorem dX11_emit_15 : decode cX11_emit 15 = .ok (.getfield 224, 3) := dcw_180 (by decide +kernel)
theorem dX11_emit_18 : decode cX11_emit 18 = .ok (.iload_n 2, 1) := dc1_28 (by decide +kernel)
theorem dX11_emit_19 : decode cX11_emit 19 = .ok (.iastore, 1) := dc1_79 (by decide +kernel)
theorem dX11_emit_20 : decode cX11_emit 20 = .ok (.aload_n 0, 1) := dc1_42 (by decide +kernel)
theorem dX11_emit_21 : decode cX11_emit 21 = .ok (.dup, 1) := dc1_89 (by decide +kernel)
theorem dX11_emit_22 : decode cX11_emit 22 = .ok (.getfield 224, 3) := dcw_180 (by decide +kernel)
theorem dX11_emit_25 : decode cX11_emit 25 = .ok (.iconst 1, 1) := dc1_4 (by decide +kernel)
theorem dX11_emit_26 : decode cX11_emit 26 = .ok (.iadd, 1) := dc1_96 (by decide +kernel)
theorem dX11_emit_27 : decode cX11_emit 27 = .ok (.putfield 224, 3) := dcw_181 (by decide +kernel)
theorem dX11_emit_30 : decode cX11_emit 30 = .ok (.return_, 1) := dc1_177 (by decide +kernel)
theorem ggX11_comesOut_X11_emit : GoodIn wsX11_comesOut wsX11_emit := gi_sub (fun w h => List.mem_cons_of_mem _ (List.mem_append_left _ (List.mem_append_right _ h))) gd_wsX11_emit
set_option maxRecDepth 20000 in
theorem gX11_comesOut_X11_emit : GoodIn wsX11_comesOut (wsV RX11 267 RX11 yX11_emit wsX11_emit) := goodIn_app (goodIn_r _ [3, 4, 5, 6] (by decide +kernel) (by decide +kernel)) ggX11_comesOut_X11_emit
theorem dX11_comesOut_0 : decode cX11_comesOut 0 = .ok (.aload_n 0, 1) := dc1_42 (by decide +kernel)
theorem dX11_comesOut_1 : decode cX11_comesOut 1 = .ok (.getfield 264, 3) := dcw_180 (by decide +kernel)
theorem dX11_comesOut_4 : decode cX11_comesOut 4 = .ok (.ifCond .le 87, 3) := dcs_158 (n := 87) (by decide +kernel)
theorem dX11_comesOut_7 : decode cX11_comesOut 7 = .ok (.aload_n 0, 1) := dc1_42 (by decide +kernel)
theorem dX11_comesOut_8 : decode cX11_comesOut 8 = .ok (.getfield 89, 3) := dcw_180 (by decide +kernel)
theorem dX11_comesOut_11 : decode cX11_comesOut 11 = .ok (.aload_n 0, 1) := dc1_42 (by decide +kernel)
theorem dX11_comesOut_12 : decode cX11_comesOut 12 = .ok (.getfield 264, 3) := dcw_180 (by decide +kernel)
theorem dX11_comesOut_15 : decode cX11_comesOut 15 = .ok (.iconst 1, 1) := dc1_4 (by decide +kernel)
theorem dX11_comesOut_16 : decode cX11_comesOut 16 = .ok (.isub, 1) := dc1_100 (by decide +kernel)
theorem dX11_comesOut_17 : decode cX11_comesOut 17 = .ok (.iaload, 1) := dc1_46 (by decide +kernel)
theorem dX11_comesOut_18 : decode cX11_comesOut 18 = .ok (.istore_n 2, 1) := dc1_61 (by decide +kernel)
theorem dX11_comesOut_19 : decode cX11_comesOut 19 = .ok (.iload_n 2, 1) := dc1_28 (by decide +kernel)
theorem dX11_comesOut_20 : decode cX11_comesOut 20 = .ok (.bipush 6, 2) := dcb_16 (n := 6) (by decide +kernel)
theorem dX11_comesOut_22 : decode cX11_comesOut 22 = .ok (.if_icmp .eq 19, 3) := dcs_159 (n := 19) (by decide +kernel)
theorem dX11_comesOut_25 : decode cX11_comesOut 25 = .ok (.iload_n 1, 1) := dc1_27 (by decide +kernel)
theorem dX11_comesOut_26 : decode cX11_comesOut 26 = .ok (.ifCond .eq 16, 3) := dcs_153 (n := 16) (by decide +kernel)
theorem dX11_comesOut_29 : decode cX11_comesOut 29 = .ok (.iload_n 2, 1) := dc1_28 (by decide +kernel)
theorem dX11_comesOut_30 : decode cX11_comesOut 30 = .ok (.bipush 8, 2) := dcb_16 (n := 8) (by decide +kernel)
theorem dX11_comesOut_32 : decode cX11_comesOut 32 = .ok (.if_icmp .eq 9, 3) := dcs_159 (n := 9) (by decide +kernel)
theorem dX11_comesOut_35 : decode cX11_comesOut 35 = .ok (.iload_n 2, 1) := dc1_28 (by decide +kernel)
theorem dX11_comesOut_36 : decode cX11_comesOut 36 = .ok (.bipush 9, 2) := dcb_16 (n := 9) (by decide +kernel)
theorem dX11_comesOut_38 : decode cX11_comesOut 38 = .ok (.if_icmp .ne 4, 3) := dcs_160 (n := 4) (by decide +kernel)
theorem dX11_comesOut_41 : decode cX11_comesOut 41 = .ok (.return_, 1) := dc1_177 (by decide +kernel)
theorem dX11_comesOut_42 : decode cX11_comesOut 42 = .ok (.aload_n 0, 1) := dc1_42 (by decide +kernel)
theorem dX11_comesOut_43 : decode cX11_comesOut 43 = .ok (.dup, 1) := dc1_89 (by decide +kernel)
theorem dX11_comesOut_44 : decode cX11_comesOut 44 = .ok (.getfield 264, 3) := dcw_180 (by decide +kernel)
theorem dX11_comesOut_47 : decode cX11_comesOut 47 = .ok (.iconst 1, 1) := dc1_4 (by decide +kernel)
theorem dX11_comesOut_48 : decode cX11_comesOut 48 = .ok (.isub, 1) := dc1_100 (by decide +kernel)
theorem dX11_comesOut_49 : decode cX11_comesOut 49 = .ok (.putfield 264, 3) := dcw_181 (by decide +kernel)
theorem dX11_comesOut_52 : decode cX11_comesOut 52 = .ok (.aload_n 0, 1) := dc1_42 (by decide +kernel)
theorem dX11_comesOut_53 : decode cX11_comesOut 53 = .ok (.iload_n 2, 1) := dc1_28 (by decide +kernel)
theorem dX11_comesOut_54 : decode cX11_comesOut 54 = .ok (.bipush 8, 2) := dcb_16 (n := 8) (by decide +kernel)
theorem dX11_comesOut_56 : decode cX11_comesOut 56 = .ok (.if_icmp .ne 7, 3) := dcs_160 (n := 7) (by decide +kernel)
theorem dX11_comesOut_59 : decode cX11_comesOut 59 = .ok (.iconst 2, 1) := dc1_5 (by decide +kernel)
theorem dX11_comesOut_60 : decode cX11_comesOut 60 = .ok (.goto 24, 3) := dcs_167 (n := 24) (by decide +kernel)
theorem dX11_comesOut_63 : decode cX11_comesOut 63 = .ok (.iload_n 2, 1) := dc1_28 (by decide +kernel)
theorem dX11_comesOut_64 : decode cX11_comesOut 64 = .ok (.bipush 9, 2) := dcb_16 (n := 9) (by decide +kernel)
theorem dX11_comesOut_66 : decode cX11_comesOut 66 = .ok (.if_icmp .ne 7, 3) := dcs_160 (n := 7) (by decide +kernel)
theorem dX11_comesOut_69 : decode cX11_comesOut 69 = .ok (.iconst 3, 1) := dc1_6 (by decide +kernel)
theorem dX11_comesOut_70 : decode cX11_comesOut 70 = .ok (.goto 14, 3) := dcs_167 (n := 14) (by decide +kernel)
theorem dX11_comesOut_73 : decode cX11_comesOut 73 = .ok (.iload_n 2, 1) := dc1_28 (by decide +kernel)
theorem dX11_comesOut_74 : decode cX11_comesOut 74 = .ok (.bipush 10, 2) := dcb_16 (n := 10) (by decide +kernel)
theorem dX11_comesOut_76 : decode cX11_comesOut 76 = .ok (.if_icmp .ne 7, 3) := dcs_160 (n := 7) (by decide +kernel)
theorem dX11_comesOut_79 : decode cX11_comesOut 79 = .ok (.iconst 4, 1) := dc1_7 (by decide +kernel)
theorem dX11_comesOut_80 : decode cX11_comesOut 80 = .ok (.goto 4, 3) := dcs_167 (n := 4) (by decide +kernel)
theorem dX11_comesOut_83 : decode cX11_comesOut 83 = .ok (.iconst 5, 1) := dc1_8 (by decide +kernel)
theorem dX11_comesOut_84 : decode cX11_comesOut 84 = .ok (.iconst 0, 1) := dc1_3 (by decide +kernel)
theorem dX11_comesOut_85 : decode cX11_comesOut 85 = .ok (.invokevirtual 267, 3) := dcw_182 (by decide +kernel)
theorem dX11_comesOut_88 : decode cX11_comesOut 88 = .ok (.goto (-88), 3) := dcs_167 (n := 65448) (by decide +kernel)
theorem dX11_comesOut_91 : decode cX11_comesOut 91 = .ok (.return_, 1) := dc1_177 (by decide +kernel)
theorem ggX11_expression_X11_is : GoodIn wsX11_expression wsX11_is := gi_sub (fun w h => List.mem_cons_of_mem _ (List.mem_append_left _ (List.mem_append_right _ (List.mem_append_left _ h)))) gd_wsX11_is
set_option maxRecDepth 20000 in
theorem gX11_expression_X11_is : GoodIn wsX11_expression (wsV RX11 203 RX11 yX11_is wsX11_is) := goodIn_app (goodIn_r _ [7, 8, 9, 10] (by decide +kernel) (by decide +kernel)) ggX11_expression_X11_is
theorem ggX11_expression_X11_fail : GoodIn wsX11_expression wsX11_fail := gi_sub (fun w h => List.mem_cons_of_mem _ (List.mem_append_left _ (List.mem_append_right _ (List.mem_append_right _ (List.mem_append_left _ h))))) gd_wsX11_fail
set_option maxRecDepth 20000 in
theorem gX11_expression_X11_fail : GoodIn wsX11_expression (wsV RX11 200 RX11 yX11_fail wsX11_fail) := goodIn_app (goodIn_r _ [11, 12, 13, 10] (by decide +kernel) (by decide +kernel)) ggX11_expression_X11_fail
theorem ggX11_expression_X11_goesOn : GoodIn wsX11_expression wsX11_goesOn := gi_sub (fun w h => List.mem_cons_of_mem _ (List.mem_append_left _ (List.mem_append_right _ (List.mem_append_right _ (List.mem_append_right _ (List.mem_append_left _ h)))))) gd_wsX11_goesOn
set_option maxRecDepth 20000 in
theorem gX11_expression_X11_goesOn : GoodIn wsX11_expression (wsV RX11 206 RX11 yX11_goesOn wsX11_goesOn) := goodIn_app (goodIn_r _ [14, 15, 16, 10] (by decide +kernel) (by decide +kernel)) ggX11_expression_X11_goesOn
theorem ggX11_expression_X11_unit : GoodIn wsX11_expression wsX11_unit := gi_sub (fun w h => List.mem_cons_of_mem _ (List.mem_append_left _ (List.mem_append_right _ (List.mem_append_right _ (List.mem_append_right _ (List.mem_append_right _ (List.mem_append_left _ h))))))) gd_wsX11_unit
set_option maxRecDepth 20000 in
theorem gX11_expression_X11_unit : GoodIn wsX11_expression (wsV RX11 270 RX11 yX11_unit wsX11_unit) := goodIn_app (goodIn_r _ [17, 18, 19, 10] (by decide +kernel) (by decide +kernel)) ggX11_expression_X11_unit
theorem ggX11_expression_X11_comesOut : GoodIn wsX11_expression wsX11_comesOut := gi_sub (fun w h => List.mem_cons_of_mem _ (List.mem_append_left _ (List.mem_append_right _ (List.mem_append_right _ (List.mem_append_right _ (List.mem_append_right _ (List.mem_append_right _ h))))))) gd_wsX11_comesOut
set_option maxRecDepth 20000 in
theorem gX11_expression_X11_comesOut : GoodIn wsX11_expression (wsV RX11 273 RX11 yX11_comesOut wsX11_comesOut) := goodIn_app (goodIn_r _ [20, 21, 22, 10] (by decide +kernel) (by decide +kernel)) ggX11_expression_X11_comesOut
theorem dX11_expression_0 : decode cX11_expression 0 = .ok (.aload_n 0, 1) := dc1_42 (by decide +kernel)
theorem dX11_expression_1 : decode cX11_expression 1 = .ok (.iconst 0, 1) := dc1_3 (by decide +kernel)
theorem dX11_expression_2 : decode cX11_expression 2 = .ok (.putfield 264, 3) := dcw_181 (by decide +kernel)
theorem dX11_expression_5 : decode cX11_expression 5 = .ok (.aload_n 0, 1) := dc1_42 (by decide +kernel)
theorem dX11_expression_6 : decode cX11_expression 6 = .ok (.getfield 212, 3) := dcw_180 (by decide +kernel)
theorem dX11_expression_9 : decode cX11_expression 9 = .ok (.istore_n 1, 1) := dc1_60 (by decide +kernel)
theorem dX11_expression_10 : decode cX11_expression 10 = .ok (.iconst 1, 1) := dc1_4 (by decide +kernel)
theorem dX11_expression_11 : decode cX11_expression 11 = .ok (.istore_n 2, 1) := dc1_61 (by decide +kernel)
theorem dX11_expression_12 : decode cX11_expression 12 = .ok (.iload_n 2, 1) := dc1_28 (by decide +kernel)
theorem dX11_expression_13 : decode cX11_expression 13 = .ok (.ifCond .eq 259, 3) := dcs_153 (n := 259) (by decide +kernel)
theorem dX11_expression_16 : decode cX11_expression 16 = .ok (.aload_n 0, 1) := dc1_42 (by decide +kernel)
theorem dX11_expression_17 : decode cX11_expression 17 = .ok (.getfield 185, 3) := dcw_180 (by decide +kernel)
theorem dX11_expression_20 : decode cX11_expression 20 = .ok (.ifCond .ne 252, 3) := dcs_154 (n := 252) (by decide +kernel)
theorem dX11_expression_23 : decode cX11_expression 23 = .ok (.aload_n 0, 1) := dc1_42 (by decide +kernel)
theorem dX11_expression_24 : decode cX11_expression 24 = .ok (.bipush 6, 2) := dcb_16 (n := 6) (by decide +kernel)
theorem dX11_expression_26 : decode cX11_expression 26 = .ok (.invokevirtual 203, 3) := dcw_182 (by decide +kernel)
theorem dX11_expression_29 : decode cX11_expression 29 = .ok (.ifCond .eq 55, 3) := dcs_153 (n := 55) (by decide +kernel)
theorem dX11_expression_32 : decode cX11_expression 32 = .ok (.aload_n 0, 1) := dc1_42 (by decide +kernel)
theorem dX11_expression_33 : decode cX11_expression 33 = .ok (.getfield 212, 3) := dcw_180 (by decide +kernel)
theorem dX11_expression_36 : decode cX11_expression 36 = .ok (.bipush 6, 2) := dcb_16 (n := 6) (by decide +kernel)
theorem dX11_expression_38 : decode cX11_expression 38 = .ok (.if_icmp .ne 8, 3) := dcs_160 (n := 8) (by decide +kernel)
theorem dX11_expression_41 : decode cX11_expression 41 = .ok (.aload_n 0, 1) := dc1_42 (by decide +kernel)
theorem dX11_expression_42 : decode cX11_expression 42 = .ok (.iconst 2, 1) := dc1_5 (by decide +kernel)
theorem dX11_expression_43 : decode cX11_expression 43 = .ok (.invokevirtual 200, 3) := dcw_182 (by decide +kernel)
theorem dX11_expression_46 : decode cX11_expression 46 = .ok (.aload_n 0, 1) := dc1_42 (by decide +kernel)
theorem dX11_expression_47 : decode cX11_expression 47 = .ok (.dup, 1) := dc1_89 (by decide +kernel)
theorem dX11_expression_48 : decode cX11_expression 48 = .ok (.getfield 212, 3) := dcw_180 (by decide +kernel)
theorem dX11_expression_51 : decode cX11_expression 51 = .ok (.iconst 1, 1) := dc1_4 (by decide +kernel)
theorem dX11_expression_52 : decode cX11_expression 52 = .ok (.iadd, 1) := dc1_96 (by decide +kernel)
theorem dX11_expression_53 : decode cX11_expression 53 = .ok (.putfield 212, 3) := dcw_181 (by decide +kernel)
theorem dX11_expression_56 : decode cX11_expression 56 = .ok (.aload_n 0, 1) := dc1_42 (by decide +kernel)
theorem dX11_expression_57 : decode cX11_expression 57 = .ok (.invokevirtual 206, 3) := dcw_182 (by decide +kernel)
theorem dX11_expression_60 : decode cX11_expression 60 = .ok (.aload_n 0, 1) := dc1_42 (by decide +kernel)
theorem dX11_expression_61 : decode cX11_expression 61 = .ok (.getfield 89, 3) := dcw_180 (by decide +kernel)
theorem dX11_expression_64 : decode cX11_expression 64 = .ok (.aload_n 0, 1) := dc1_42 (by decide +kernel)
theorem dX11_expression_65 : decode cX11_expression 65 = .ok (.getfield 264, 3) := dcw_180 (by decide +kernel)
theorem dX11_expression_68 : decode cX11_expression 68 = .ok (.bipush 6, 2) := dcb_16 (n := 6) (by decide +kernel)
theorem dX11_expression_70 : decode cX11_expression 70 = .ok (.iastore, 1) := dc1_79 (by decide +kernel)
theorem dX11_expression_71 : decode cX11_expression 71 = .ok (.aload_n 0, 1) := dc1_42 (by decide +kernel)
theorem dX11_expression_72 : decode cX11_expression 72 = .ok (.dup, 1) := dc1_89 (by decide +kernel)
theorem dX11_expression_73 : decode cX11_expression 73 = .ok (.getfield 264, 3) := dcw_180 (by decide +kernel)
theorem dX11_expression_76 : decode cX11_expression 76 = .ok (.iconst 1, 1) := dc1_4 (by decide +kernel)
theorem dX11_expression_77 : decode cX11_expression 77 = .ok (.iadd, 1) := dc1_96 (by decide +kernel)
theorem dX11_expression_78 : decode cX11_expression 78 = .ok (.putfield 264, 3) := dcw_181 (by decide +kernel)
theorem dX11_expression_81 : decode cX11_expression 81 = .ok (.goto (-58), 3) := dcs_167 (n := 65478) (by decide +kernel)
theorem dX11_expression_84 : decode cX11_expression 84 = .ok (.aload_n 0, 1) := dc1_42 (by decide +kernel)
theorem dX11_expression_85 : decode cX11_expression 85 = .ok (.invokevirtual 270, 3) := dcw_182 (by decide +kernel)
theorem dX11_expression_88 : decode cX11_expression 88 = .ok (.aload_n 0, 1) := dc1_42 (by decide +kernel)
theorem dX11_expression_89 : decode cX11_expression 89 = .ok (.getfield 185, 3) := dcw_180 (by decide +kernel)
theorem dX11_expression_92 : decode cX11_expression 92 = .ok (.ifCond .le 4, 3) := dcs_158 (n := 4) (by decide +kernel)
theorem dX11_expression_95 : decode cX11_expression 95 = .ok (.return_, 1) := dc1_177 (by decide +kernel)
theorem dX11_expression_96 : decode cX11_expression 96 = .ok (.aload_n 0, 1) := dc1_42 (by decide +kernel)
theorem dX11_expression_97 : decode cX11_expression 97 = .ok (.bipush 7, 2) := dcb_16 (n := 7) (by decide +kernel)
theorem dX11_expression_99 : decode cX11_expression 99 = .ok (.invokevirtual 203, 3) := dcw_182 (by decide +kernel)
theorem dX11_expression_102 : decode cX11_expression 102 = .ok (.ifCond .eq 43, 3) := dcs_153 (n := 43) (by decide +kernel)
theorem dX11_expression_105 : decode cX11_expression 105 = .ok (.aload_n 0, 1) := dc1_42 (by decide +kernel)
theorem dX11_expression_106 : decode cX11_expression 106 = .ok (.getfield 212, 3) := dcw_180 (by decide +kernel)
theorem dX11_expression_109 : decode cX11_expression 109 = .ok (.iload_n 1, 1) := dc1_27 (by decide +kernel)
theorem dX11_expression_110 : decode cX11_expression 110 = .ok (.if_icmp .le 35, 3) := dcs_164 (n := 35) (by decide +kernel)
theorem dX11_expression_113 : decode cX11_expression 113 = .ok (.aload_n 0, 1) := dc1_42 (by decide +kernel)
theorem dX11_expression_114 : decode cX11_expression 114 = .ok (.iconst 0, 1) := dc1_3 (by decide +kernel)
theorem dX11_expression_115 : decode cX11_expression 115 = .ok (.invokevirtual 273, 3) := dcw_182 (by decide +kernel)
theorem dX11_expression_118 : decode cX11_expression 118 = .ok (.aload_n 0, 1) := dc1_42 (by decide +kernel)
theorem dX11_expression_119 : decode cX11_expression 119 = .ok (.dup, 1) := dc1_89 (by decide +kernel)
theorem dX11_expression_120 : decode cX11_expression 120 = .ok (.getfield 264, 3) := dcw_180 (by decide +kernel)
theorem dX11_expression_123 : decode cX11_expression 123 = .ok (.iconst 1, 1) := dc1_4 (by decide +kernel)
theorem dX11_expression_124 : decode cX11_expression 124 = .ok (.isub, 1) := dc1_100 (by decide +kernel)
theorem dX11_expression_125 : decode cX11_expression 125 = .ok (.putfield 264, 3) := dcw_181 (by decide +kernel)
theorem dX11_expression_128 : decode cX11_expression 128 = .ok (.aload_n 0, 1) := dc1_42 (by decide +kernel)
theorem dX11_expression_129 : decode cX11_expression 129 = .ok (.dup, 1) := dc1_89 (by decide +kernel)
theorem dX11_expression_130 : decode cX11_expression 130 = .ok (.getfield 212, 3) := dcw_180 (by decide +kernel)
theorem dX11_expression_133 : decode cX11_expression 133 = .ok (.iconst 1, 1) := dc1_4 (by decide +kernel)
theorem dX11_expression_134 : decode cX11_expression 134 = .ok (.isub, 1) := dc1_100 (by decide +kernel)
theorem dX11_expression_135 : decode cX11_expression 135 = .ok (.putfield 212, 3) := dcw_181 (by decide +kernel)
theorem dX11_expression_138 : decode cX11_expression 138 = .ok (.aload_n 0, 1) := dc1_42 (by decide +kernel)
theorem dX11_expression_139 : decode cX11_expression 139 = .ok (.invokevirtual 206, 3) := dcw_182 (by decide +kernel)
theorem dX11_expression_142 : decode cX11_expression 142 = .ok (.goto (-46), 3) := dcs_167 (n := 65490) (by decide +kernel)
theorem dX11_expression_145 : decode cX11_expression 145 = .ok (.aload_n 0, 1) := dc1_42 (by decide +kernel)
theorem dX11_expression_146 : decode cX11_expression 146 = .ok (.bipush 8, 2) := dcb_16 (n := 8) (by decide +kernel)
theorem dX11_expression_148 : decode cX11_expression 148 = .ok (.invokevirtual 203, 3) := dcw_182 (by decide +kernel)
theorem dX11_expression_151 : decode cX11_expression 151 = .ok (.ifCond .ne 30, 3) := dcs_154 (n := 30) (by decide +kernel)
theorem dX11_expression_154 : decode cX11_expression 154 = .ok (.aload_n 0, 1) := dc1_42 (by decide +kernel)
theorem dX11_expression_155 : decode cX11_expression 155 = .ok (.bipush 9, 2) := dcb_16 (n := 9) (by decide +kernel)
theorem dX11_expression_157 : decode cX11_expression 157 = .ok (.invokevirtual 203, 3) := dcw_182 (by decide +kernel)
theorem dX11_expression_160 : decode cX11_expression 160 = .ok (.ifCond .ne 21, 3) := dcs_154 (n := 21) (by decide +kernel)
theorem dX11_expression_163 : decode cX11_expression 163 = .ok (.aload_n 0, 1) := dc1_42 (by decide +kernel)
theorem dX11_expression_164 : decode cX11_expression 164 = .ok (.bipush 10, 2) := dcb_16 (n := 10) (by decide +kernel)
theorem dX11_expression_166 : decode cX11_expression 166 = .ok (.invokevirtual 203, 3) := dcw_182 (by decide +kernel)
theorem dX11_expression_169 : decode cX11_expression 169 = .ok (.ifCond .ne 12, 3) := dcs_154 (n := 12) (by decide +kernel)
theorem dX11_expression_172 : decode cX11_expression 172 = .ok (.aload_n 0, 1) := dc1_42 (by decide +kernel)
theorem dX11_expression_173 : decode cX11_expression 173 = .ok (.bipush 15, 2) := dcb_16 (n := 15) (by decide +kernel)
theorem dX11_expression_175 : decode cX11_expression 175 = .ok (.invokevirtual 203, 3) := dcw_182 (by decide +kernel)
theorem dX11_expression_178 : decode cX11_expression 178 = .ok (.ifCond .eq 7, 3) := dcs_153 (n := 7) (by decide +kernel)
theorem dX11_expression_181 : decode cX11_expression 181 = .ok (.iconst 1, 1) := dc1_4 (by decide +kernel)
theorem dX11_expression_182 : decode cX11_expression 182 = .ok (.goto 4, 3) := dcs_167 (n := 4) (by decide +kernel)
theorem dX11_expression_185 : decode cX11_expression 185 = .ok (.iconst 0, 1) := dc1_3 (by decide +kernel)
theorem dX11_expression_186 : decode cX11_expression 186 = .ok (.istore_n 2, 1) := dc1_61 (by decide +kernel)
theorem dX11_expression_187 : decode cX11_expression 187 = .ok (.iload_n 2, 1) := dc1_28 (by decide +kernel)
theorem dX11_expression_188 : decode cX11_expression 188 = .ok (.ifCond .ne 22, 3) := dcs_154 (n := 22) (by decide +kernel)
theorem dX11_expression_191 : decode cX11_expression 191 = .ok (.aload_n 0, 1) := dc1_42 (by decide +kernel)
theorem dX11_expression_192 : decode cX11_expression 192 = .ok (.getfield 212, 3) := dcw_180 (by decide +kernel)
theorem dX11_expression_195 : decode cX11_expression 195 = .ok (.iload_n 1, 1) := dc1_27 (by decide +kernel)
theorem dX11_expression_196 : decode cX11_expression 196 = .ok (.if_icmp .le 8, 3) := dcs_164 (n := 8) (by decide +kernel)
theorem dX11_expression_199 : decode cX11_expression 199 = .ok (.aload_n 0, 1) := dc1_42 (by decide +kernel)
theorem dX11_expression_200 : decode cX11_expression 200 = .ok (.iconst 1, 1) := dc1_4 (by decide +kernel)
theorem dX11_expression_201 : decode cX11_expression 201 = .ok (.invokevirtual 200, 3) := dcw_182 (by decide +kernel)
theorem dX11_expression_204 : decode cX11_expression 204 = .ok (.aload_n 0, 1) := dc1_42 (by decide +kernel)
theorem dX11_expression_205 : decode cX11_expression 205 = .ok (.iconst 0, 1) := dc1_3 (by decide +kernel)
theorem dX11_expression_206 : decode cX11_expression 206 = .ok (.invokevirtual 273, 3) := dcw_182 (by decide +kernel)
theorem dX11_expression_209 : decode cX11_expression 209 = .ok (.return_, 1) := dc1_177 (by decide +kernel)
theorem dX11_expression_210 : decode cX11_expression 210 = .ok (.aload_n 0, 1) := dc1_42 (by decide +kernel)
theorem dX11_expression_211 : decode cX11_expression 211 = .ok (.aload_n 0, 1) := dc1_42 (by decide +kernel)
theorem dX11_expression_212 : decode cX11_expression 212 = .ok (.bipush 10, 2) := dcb_16 (n := 10) (by decide +kernel)
theorem dX11_expression_214 : decode cX11_expression 214 = .ok (.invokevirtual 203, 3) := dcw_182 (by decide +kernel)
theorem dX11_expression_217 : decode cX11_expression 217 = .ok (.ifCond .ne 12, 3) := dcs_154 (n := 12) (by decide +kernel)
theorem dX11_expression_220 : decode cX11_expression 220 = .ok (.aload_n 0, 1) := dc1_42 (by decide +kernel)
theorem dX11_expression_221 : decode cX11_expression 221 = .ok (.bipush 15, 2) := dcb_16 (n := 15) (by decide +kernel)
theorem dX11_expression_223 : decode cX11_expression 223 = .ok (.invokevirtual 203, 3) := dcw_182 (by decide +kernel)
theorem dX11_expression_226 : decode cX11_expression 226 = .ok (.ifCond .eq 7, 3) := dcs_153 (n := 7) (by decide +kernel)
theorem dX11_expression_229 : decode cX11_expression 229 = .ok (.iconst 1, 1) := dc1_4 (by decide +kernel)
theorem dX11_expression_230 : decode cX11_expression 230 = .ok (.goto 4, 3) := dcs_167 (n := 4) (by decide +kernel)
theorem dX11_expression_233 : decode cX11_expression 233 = .ok (.iconst 0, 1) := dc1_3 (by decide +kernel)
theorem dX11_expression_234 : decode cX11_expression 234 = .ok (.invokevirtual 273, 3) := dcw_182 (by decide +kernel)
theorem dX11_expression_237 : decode cX11_expression 237 = .ok (.aload_n 0, 1) := dc1_42 (by decide +kernel)
theorem dX11_expression_238 : decode cX11_expression 238 = .ok (.getfield 89, 3) := dcw_180 (by decide +kernel)
theorem dX11_expression_241 : decode cX11_expression 241 = .ok (.aload_n 0, 1) := dc1_42 (by decide +kernel)
theorem dX11_expression_242 : decode cX11_expression 242 = .ok (.getfield 264, 3) := dcw_180 (by decide +kernel)
theorem dX11_expression_245 : decode cX11_expression 245 = .ok (.aload_n 0, 1) := dc1_42 (by decide +kernel)
theorem dX11_expression_246 : decode cX11_expression 246 = .ok (.getfield 20, 3) := dcw_180 (by decide +kernel)
theorem dX11_expression_249 : decode cX11_expression 249 = .ok (.aload_n 0, 1) := dc1_42 (by decide +kernel)
theorem dX11_expression_250 : decode cX11_expression 250 = .ok (.getfield 188, 3) := dcw_180 (by decide +kernel)
theorem dX11_expression_253 : decode cX11_expression 253 = .ok (.iaload, 1) := dc1_46 (by decide +kernel)
theorem dX11_expression_254 : decode cX11_expression 254 = .ok (.iastore, 1) := dc1_79 (by decide +kernel)
theorem dX11_expression_255 : decode cX11_expression 255 = .ok (.aload_n 0, 1) := dc1_42 (by decide +kernel)
theorem dX11_expression_256 : decode cX11_expression 256 = .ok (.dup, 1) := dc1_89 (by decide +kernel)
theorem dX11_expression_257 : decode cX11_expression 257 = .ok (.getfield 264, 3) := dcw_180 (by decide +kernel)
theorem dX11_expression_260 : decode cX11_expression 260 = .ok (.iconst 1, 1) := dc1_4 (by decide +kernel)
theorem dX11_expression_261 : decode cX11_expression 261 = .ok (.iadd, 1) := dc1_96 (by decide +kernel)
theorem dX11_expression_262 : decode cX11_expression 262 = .ok (.putfield 264, 3) := dcw_181 (by decide +kernel)
theorem dX11_expression_265 : decode cX11_expression 265 = .ok (.aload_n 0, 1) := dc1_42 (by decide +kernel)
theorem dX11_expression_266 : decode cX11_expression 266 = .ok (.invokevirtual 206, 3) := dcw_182 (by decide +kernel)
theorem dX11_expression_269 : decode cX11_expression 269 = .ok (.goto (-257), 3) := dcs_167 (n := 65279) (by decide +kernel)
theorem dX11_expression_272 : decode cX11_expression 272 = .ok (.return_, 1) := dc1_177 (by decide +kernel)
theorem ggX11_unit_X11_is : GoodIn wsX11_unit wsX11_is := gi_sub (fun w h => List.mem_cons_of_mem _ (List.mem_append_left _ (List.mem_append_right _ (List.mem_append_left _ h)))) gd_wsX11_is
set_option maxRecDepth 20000 in
theorem gX11_unit_X11_is : GoodIn wsX11_unit (wsV RX11 203 RX11 yX11_is wsX11_is) := goodIn_app (goodIn_r _ [5, 6, 7, 8] (by decide +kernel) (by decide +kernel)) ggX11_unit_X11_is
theorem ggX11_unit_X11_emit : GoodIn wsX11_unit wsX11_emit := gi_sub (fun w h => List.mem_cons_of_mem _ (List.mem_append_left _ (List.mem_append_right _ (List.mem_append_right _ (List.mem_append_left _ h))))) gd_wsX11_emit
set_option maxRecDepth 20000 in
theorem gX11_unit_X11_emit : GoodIn wsX11_unit (wsV RX11 267 RX11 yX11_emit wsX11_emit) := goodIn_app (goodIn_r _ [9, 10, 11, 8] (by decide +kernel) (by decide +kernel)) ggX11_unit_X11_emit
theorem ggX11_unit_X11_goesOn : GoodIn wsX11_unit wsX11_goesOn := gi_sub (fun w h => List.mem_cons_of_mem _ (List.mem_append_left _ (List.mem_append_right _ (List.mem_append_right _ (List.mem_append_right _ (List.mem_append_left _ h)))))) gd_wsX11_goesOn
set_option maxRecDepth 20000 in
theorem gX11_unit_X11_goesOn : GoodIn wsX11_unit (wsV RX11 206 RX11 yX11_goesOn wsX11_goesOn) := goodIn_app (goodIn_r _ [12, 13, 14, 8] (by decide +kernel) (by decide +kernel)) ggX11_unit_X11_goesOn
theorem ggX11_unit_X11_fail : GoodIn wsX11_unit wsX11_fail := gi_sub (fun w h => List.mem_cons_of_mem _ (List.mem_append_left _ (List.mem_append_right _ (List.mem_append_right _ (List.mem_append_right _ (List.mem_append_right _ h)))))) gd_wsX11_fail
set_option maxRecDepth 20000 in
theorem gX11_unit_X11_fail : GoodIn wsX11_unit (wsV RX11 200 RX11 yX11_fail wsX11_fail) := goodIn_app (goodIn_r _ [15, 16, 17, 8] (by decide +kernel) (by decide +kernel)) ggX11_unit_X11_fail
theorem dX11_unit_0 : decode cX11_unit 0 = .ok (.aload_n 0, 1) := dc1_42 (by decide +kernel)
theorem dX11_unit_1 : decode cX11_unit 1 = .ok (.iconst 2, 1) := dc1_5 (by decide +kernel)
theorem dX11_unit_2 : decode cX11_unit 2 = .ok (.invokevirtual 203, 3) := dcw_182 (by decide +kernel)
theorem dX11_unit_5 : decode cX11_unit 5 = .ok (.ifCond .eq 24, 3) := dcs_153 (n := 24) (by decide +kernel)
theorem dX11_unit_8 : decode cX11_unit 8 = .ok (.aload_n 0, 1) := dc1_42 (by decide +kernel)
theorem dX11_unit_9 : decode cX11_unit 9 = .ok (.iconst 0, 1) := dc1_3 (by decide +kernel)
theorem dX11_unit_10 : decode cX11_unit 10 = .ok (.aload_n 0, 1) := dc1_42 (by decide +kernel)
theorem dX11_unit_11 : decode cX11_unit 11 = .ok (.getfield 27, 3) := dcw_180 (by decide +kernel)
theorem dX11_unit_14 : decode cX11_unit 14 = .ok (.aload_n 0, 1) := dc1_42 (by decide +kernel)
theorem dX11_unit_15 : decode cX11_unit 15 = .ok (.getfield 188, 3) := dcw_180 (by decide +kernel)
theorem dX11_unit_18 : decode cX11_unit 18 = .ok (.iaload, 1) := dc1_46 (by decide +kernel)
theorem dX11_unit_19 : decode cX11_unit 19 = .ok (.invokevirtual 267, 3) := dcw_182 (by decide +kernel)
theorem dX11_unit_22 : decode cX11_unit 22 = .ok (.aload_n 0, 1) := dc1_42 (by decide +kernel)
theorem dX11_unit_23 : decode cX11_unit 23 = .ok (.invokevirtual 206, 3) := dcw_182 (by decide +kernel)
theorem dX11_unit_26 : decode cX11_unit 26 = .ok (.goto 67, 3) := dcs_167 (n := 67) (by decide +kernel)
theorem dX11_unit_29 : decode cX11_unit 29 = .ok (.aload_n 0, 1) := dc1_42 (by decide +kernel)
theorem dX11_unit_30 : decode cX11_unit 30 = .ok (.getfield 185, 3) := dcw_180 (by decide +kernel)
theorem dX11_unit_33 : decode cX11_unit 33 = .ok (.ifCond .ne 55, 3) := dcs_154 (n := 55) (by decide +kernel)
theorem dX11_unit_36 : decode cX11_unit 36 = .ok (.aload_n 0, 1) := dc1_42 (by decide +kernel)
theorem dX11_unit_37 : decode cX11_unit 37 = .ok (.getfield 20, 3) := dcw_180 (by decide +kernel)
theorem dX11_unit_40 : decode cX11_unit 40 = .ok (.aload_n 0, 1) := dc1_42 (by decide +kernel)
theorem dX11_unit_41 : decode cX11_unit 41 = .ok (.getfield 188, 3) := dcw_180 (by decide +kernel)
theorem dX11_unit_44 : decode cX11_unit 44 = .ok (.iaload, 1) := dc1_46 (by decide +kernel)
theorem dX11_unit_45 : decode cX11_unit 45 = .ok (.bipush 30, 2) := dcb_16 (n := 30) (by decide +kernel)
theorem dX11_unit_47 : decode cX11_unit 47 = .ok (.if_icmp .lt 41, 3) := dcs_161 (n := 41) (by decide +kernel)
theorem dX11_unit_50 : decode cX11_unit 50 = .ok (.aload_n 0, 1) := dc1_42 (by decide +kernel)
theorem dX11_unit_51 : decode cX11_unit 51 = .ok (.getfield 20, 3) := dcw_180 (by decide +kernel)
theorem dX11_unit_54 : decode cX11_unit 54 = .ok (.aload_n 0, 1) := dc1_42 (by decide +kernel)
theorem dX11_unit_55 : decode cX11_unit 55 = .ok (.getfield 188, 3) := dcw_180 (by decide +kernel)
theorem dX11_unit_58 : decode cX11_unit 58 = .ok (.iaload, 1) := dc1_46 (by decide +kernel)
theorem dX11_unit_59 : decode cX11_unit 59 = .ok (.bipush 38, 2) := dcb_16 (n := 38) (by decide +kernel)
theorem dX11_unit_61 : decode cX11_unit 61 = .ok (.if_icmp .gt 27, 3) := dcs_163 (n := 27) (by decide +kernel)
theorem dX11_unit_64 : decode cX11_unit 64 = .ok (.aload_n 0, 1) := dc1_42 (by decide +kernel)
theorem dX11_unit_65 : decode cX11_unit 65 = .ok (.iconst 1, 1) := dc1_4 (by decide +kernel)
theorem dX11_unit_66 : decode cX11_unit 66 = .ok (.aload_n 0, 1) := dc1_42 (by decide +kernel)
theorem dX11_unit_67 : decode cX11_unit 67 = .ok (.getfield 20, 3) := dcw_180 (by decide +kernel)
theorem dX11_unit_70 : decode cX11_unit 70 = .ok (.aload_n 0, 1) := dc1_42 (by decide +kernel)
theorem dX11_unit_71 : decode cX11_unit 71 = .ok (.getfield 188, 3) := dcw_180 (by decide +kernel)
theorem dX11_unit_74 : decode cX11_unit 74 = .ok (.iaload, 1) := dc1_46 (by decide +kernel)
theorem dX11_unit_75 : decode cX11_unit 75 = .ok (.bipush 30, 2) := dcb_16 (n := 30) (by decide +kernel)
theorem dX11_unit_77 : decode cX11_unit 77 = .ok (.isub, 1) := dc1_100 (by decide +kernel)
theorem dX11_unit_78 : decode cX11_unit 78 = .ok (.invokevirtual 267, 3) := dcw_182 (by decide +kernel)
theorem dX11_unit_81 : decode cX11_unit 81 = .ok (.aload_n 0, 1) := dc1_42 (by decide +kernel)
theorem dX11_unit_82 : decode cX11_unit 82 = .ok (.invokevirtual 206, 3) := dcw_182 (by decide +kernel)
theorem dX11_unit_85 : decode cX11_unit 85 = .ok (.goto 8, 3) := dcs_167 (n := 8) (by decide +kernel)
theorem dX11_unit_88 : decode cX11_unit 88 = .ok (.aload_n 0, 1) := dc1_42 (by decide +kernel)
theorem dX11_unit_89 : decode cX11_unit 89 = .ok (.iconst 1, 1) := dc1_4 (by decide +kernel)
theorem dX11_unit_90 : decode cX11_unit 90 = .ok (.invokevirtual 200, 3) := dcw_182 (by decide +kernel)
theorem dX11_unit_93 : decode cX11_unit 93 = .ok (.return_, 1) := dc1_177 (by decide +kernel)
theorem LX11_emit_224 : Cond.fieldLink RX11 224 "GuessFerryModel" "codes" "I" ∈ wsX11_emit := (List.mem_cons_of_mem _ (List.mem_append_left _ (List.mem_of_getElem? (i := 1) rfl)))
theorem LX11_emit_83 : Cond.fieldLink RX11 83 "GuessFerryModel" "code" "[I" ∈ wsX11_emit := (List.mem_cons_of_mem _ (List.mem_append_left _ (List.mem_of_getElem? (i := 0) rfl)))
theorem LX11_emit_86 : Cond.fieldLink RX11 86 "GuessFerryModel" "codeInt" "[I" ∈ wsX11_emit := (List.mem_cons_of_mem _ (List.mem_append_left _ (List.mem_of_getElem? (i := 2) rfl)))
theorem inX11_emit_X11 : ∀ w ∈ u_ws RX11 TX11 58, w ∈ wsX11_emit := fun _ h => List.mem_cons_of_mem _ (List.mem_append_right _ h)
set_option maxHeartbeats 4000000 in
set_option maxRecDepth 100000 in
theorem br_emit {l : Launch} {dC : Nat → ClassId} {dI : Nat → Nat → Nat} {cB cI cJ cZ cS : ClassId} {h : Nat} {a : Nat → Nat} {as : List Value} {s' : RS} (s : RS) (x1 : Int32) (x2 : Int32) (hB : r_emit s x1 x2 = some s') : BlkV l yX11_emit wsX11_emit ({ frames := 0, cells := 0, slots := 0, locals := 0 }) cX11_emit 3 none (dC, dI) (tysA cB cI cJ cZ cS) as 0 (mwS cB cI cJ cZ h a s) [(0, .ref h), (1, .int x1), (2, .int x2)] [] (fun u => u = (mwS cB cI cJ cZ h a s')) := by
  intro p e s0 m below meth c A E H locs ls hP hD hS hl
  obtain ⟨C, hr, hlocks, hA, hK, hN⟩ := id E
  obtain ⟨hx, hb, hml, hown, hts⟩ := id C
  unfold r_emit at hB
  refine lv_aload_n hx hb dX11_emit_0 rfl (lv_at hl 0 rfl) ?_
  refine q_get (v := .ref (a 36)) C inX11_emit_X11 hK hP 0 rfl rfl 36 (by decide) rfl LX11_emit_83 rfl dX11_emit_1 ?_
  refine lv_aload_n hx hb dX11_emit_4 rfl (lv_at hl 0 rfl) ?_
  refine q_get (v := .int (s.v 35)) C inX11_emit_X11 hK hP 0 rfl rfl 35 (by decide) rfl LX11_emit_224 rfl dX11_emit_5 ?_
  refine lv_iload_n hx hb dX11_emit_8 rfl (lv_at hl 1 rfl) ?_
  obtain ⟨g1, hB⟩ := guard_inv hB
  obtain ⟨s2, hs3, hB⟩ := letS_inv hB
  refine q_iast (f2 := (upd (s.f 36) (Int32.toNatClampNeg (s.v 35)) x1)) (w2 := (mwS cB cI cJ cZ h a s2)) C hK hP hD hS 22 1 rfl rfl (vpb_in g1) dX11_emit_9 rfl (mwS_f36 hs3) (fun H locs hP hD hS => ?_)
  refine lv_aload_n hx hb dX11_emit_10 rfl (lv_at hl 0 rfl) ?_
  refine q_get (v := .ref (a 37)) C inX11_emit_X11 hK hP 0 rfl rfl 37 (by decide) rfl LX11_emit_86 rfl dX11_emit_11 ?_
  refine lv_aload_n hx hb dX11_emit_14 rfl (lv_at hl 0 rfl) ?_
  refine q_get (v := .int (s2.v 35)) C inX11_emit_X11 hK hP 0 rfl rfl 35 (by decide) rfl LX11_emit_224 rfl dX11_emit_15 ?_
  refine lv_iload_n hx hb dX11_emit_18 rfl (lv_at hl 2 rfl) ?_
  obtain ⟨g4, hB⟩ := guard_inv hB
  obtain ⟨s5, hs6, hB⟩ := letS_inv hB
  refine q_iast (f2 := (upd (s2.f 37) (Int32.toNatClampNeg (s2.v 35)) x2)) (w2 := (mwS cB cI cJ cZ h a s5)) C hK hP hD hS 23 1 rfl rfl (vpb_in g4) dX11_emit_19 rfl (mwS_f37 hs6) (fun H locs hP hD hS => ?_)
  refine lv_aload_n hx hb dX11_emit_20 rfl (lv_at hl 0 rfl) ?_
  refine lv_dup hx hb dX11_emit_21 rfl ?_
  refine q_get (v := .int (s5.v 35)) C inX11_emit_X11 hK hP 0 rfl rfl 35 (by decide) rfl LX11_emit_224 rfl dX11_emit_22 ?_
  refine lv_iconst (v := 1) hx hb dX11_emit_25 (by decide) ?_
  refine lv_iadd hx hb dX11_emit_26 ?_
  obtain ⟨s7, hs8, hB⟩ := letS_inv hB
  refine q_put (ty := .int) (w2 := (mwS cB cI cJ cZ h a s7)) tyX11 tyX11_ok nmX11 C inX11_emit_X11 hK hP hD hS 0 rfl rfl 35 (by decide) rfl LX11_emit_224 rfl (by decide +kernel) (rfl) rfl (Nat.le_of_ble_eq_true rfl) dX11_emit_27 (mwS_v35 hs8) (fun H locs hP hD hS => ?_)
  exact q_vret C hr hlocks hK hP hD hS (Nat.le_of_ble_eq_true rfl) (Nat.le_of_ble_eq_true rfl) dX11_emit_30 (by cases hB; rfl)
theorem cr_emit {l : Launch} {dC : Nat → ClassId} {dI : Nat → Nat → Nat} {cB cI cJ cZ cS : ClassId} {h : Nat} {a : Nat → Nat} {s' : RS} {s : RS} {x1 : Int32} {x2 : Int32} (hB : r_emit s x1 x2 = some s') : CV l yX11_emit wsX11_emit ({ frames := 0, cells := 0, slots := 0, locals := 0 }) (dC, dI) (tysA cB cI cJ cZ cS) (mwS cB cI cJ cZ h a s) [.ref h, .int x1, .int x2] (fun u => u = (mwS cB cI cJ cZ h a s')) :=
  CV_of (cc := cX11_emit) (maxL := 3) (ret := none) (by decide) rfl (Nat.le_of_ble_eq_true rfl) (br_emit _ _ _ hB)
theorem LX11_unit_185 : Cond.fieldLink RX11 185 "GuessFerryModel" "fault" "I" ∈ wsX11_unit := (List.mem_cons_of_mem _ (List.mem_append_left _ (List.mem_append_left _ (List.mem_of_getElem? (i := 2) rfl))))
theorem LX11_unit_188 : Cond.fieldLink RX11 188 "GuessFerryModel" "t" "I" ∈ wsX11_unit := (List.mem_cons_of_mem _ (List.mem_append_left _ (List.mem_append_left _ (List.mem_of_getElem? (i := 1) rfl))))
theorem LX11_unit_20 : Cond.fieldLink RX11 20 "GuessFerryModel" "tKind" "[I" ∈ wsX11_unit := (List.mem_cons_of_mem _ (List.mem_append_left _ (List.mem_append_left _ (List.mem_of_getElem? (i := 3) rfl))))
theorem LX11_unit_27 : Cond.fieldLink RX11 27 "GuessFerryModel" "tValue" "[I" ∈ wsX11_unit := (List.mem_cons_of_mem _ (List.mem_append_left _ (List.mem_append_left _ (List.mem_of_getElem? (i := 0) rfl))))
theorem inX11_unit_X11 : ∀ w ∈ u_ws RX11 TX11 58, w ∈ wsX11_unit := fun w h => (List.mem_cons_of_mem _ (List.mem_append_right _ h))
set_option maxHeartbeats 4000000 in
set_option maxRecDepth 100000 in
theorem br_unit_88 {l : Launch} {dC : Nat → ClassId} {dI : Nat → Nat → Nat} {cB cI cJ cZ cS : ClassId} {h : Nat} {a : Nat → Nat} {as : List Value} {s' : RS} (s : RS) (hB : r_unit_88 s = some s') : BlkV l yX11_unit wsX11_unit ({ frames := 2, cells := 0, slots := 0, locals := 41 }) cX11_unit 1 none (dC, dI) (tysA cB cI cJ cZ cS) as 88 (mwS cB cI cJ cZ h a s) [(0, .ref h)] [] (fun u => u = (mwS cB cI cJ cZ h a s')) := by
  intro p e s0 m below meth c A E H locs ls hP hD hS hl
  obtain ⟨C, hr, hlocks, hA, hK, hN⟩ := id E
  obtain ⟨hx, hb, hml, hown, hts⟩ := id C
  unfold r_unit_88 at hB
  refine lv_aload_n hx hb dX11_unit_88 rfl (lv_at hl 0 rfl) ?_
  refine lv_iconst (v := 1) hx hb dX11_unit_89 (by decide) ?_
  obtain ⟨s1, hc, hB⟩ := bindP_inv hB
  refine q_govF (va_runV (As := [.int 1]) (rest := []) C (cr_fail hc _) (cwV 1 hts gX11_unit_X11_fail rfl rfl rfl (by decide +kernel) ⟨Nat.le_of_ble_eq_true rfl, Nat.le_of_ble_eq_true rfl⟩) (q_preV hK hP (ci := 11) (q0 := 0) rfl rfl rfl (q_preF hN hK hP hD)) rfl rfl hl.1 rfl (lv_room (Nat.le_of_ble_eq_true rfl)) dX11_unit_90 ⟨Nat.le_of_ble_eq_true rfl, Nat.le_of_ble_eq_true rfl⟩) hD hS hA (fun w1 H locs hw hP hD hS => ?_)
  subst hw
  exact q_vret C hr hlocks hK hP hD hS (Nat.le_of_ble_eq_true rfl) (Nat.le_of_ble_eq_true rfl) dX11_unit_93 (by cases hB; rfl)
set_option maxHeartbeats 4000000 in
set_option maxRecDepth 100000 in
theorem br_unit {l : Launch} {dC : Nat → ClassId} {dI : Nat → Nat → Nat} {cB cI cJ cZ cS : ClassId} {h : Nat} {a : Nat → Nat} {as : List Value} {s' : RS} (s : RS) (hB : r_unit s = some s') : BlkV l yX11_unit wsX11_unit ({ frames := 2, cells := 0, slots := 0, locals := 41 }) cX11_unit 1 none (dC, dI) (tysA cB cI cJ cZ cS) as 0 (mwS cB cI cJ cZ h a s) [(0, .ref h)] [] (fun u => u = (mwS cB cI cJ cZ h a s')) := by
  intro p e s0 m below meth c A E H locs ls hP hD hS hl
  obtain ⟨C, hr, hlocks, hA, hK, hN⟩ := id E
  obtain ⟨hx, hb, hml, hown, hts⟩ := id C
  unfold r_unit at hB
  refine lv_aload_n hx hb dX11_unit_0 rfl (lv_at hl 0 rfl) ?_
  refine lv_iconst (v := 2) hx hb dX11_unit_1 (by decide) ?_
  obtain ⟨q_, s1, hc, hB⟩ := bindI_inv hB
  refine q_goiF (va_runV (As := [.int 2]) (rest := []) C (cr_is hc _) (cwV 1 hts gX11_unit_X11_is rfl rfl rfl (by decide +kernel) ⟨Nat.le_of_ble_eq_true rfl, Nat.le_of_ble_eq_true rfl⟩) (q_preV hK hP (ci := 11) (q0 := 0) rfl rfl rfl (q_preF hN hK hP hD)) rfl rfl hl.1 rfl (lv_room (Nat.le_of_ble_eq_true rfl)) dX11_unit_2 ⟨Nat.le_of_ble_eq_true rfl, Nat.le_of_ble_eq_true rfl⟩) hD hS hA (fun r2 w1 H locs hw hP hD hS => ?_)
  obtain ⟨hq_, hw⟩ := hw; subst hw; subst hq_
  refine lv_if_eq (tgt := 29) hx hb dX11_unit_5 (by decide) (fun c3 => ?_) (fun c3 => ?_)
  · have hB := if_p hB c3
    refine lv_aload_n hx hb dX11_unit_29 rfl (lv_at hl 0 rfl) ?_
    refine q_get (v := .int (s1.v 13)) C inX11_unit_X11 hK hP 0 rfl rfl 13 (by decide) rfl LX11_unit_185 rfl dX11_unit_30 ?_
    refine lv_if_ne (tgt := 88) hx hb dX11_unit_33 (by decide) (fun c4 => ?_) (fun c4 => ?_)
    · have hB := if_n hB c4
      exact br_unit_88 _ hB p e s0 m below meth c A E H locs ls hP hD hS (lv_sub hl [0] rfl)
    · have hB := if_p hB c4
      refine lv_aload_n hx hb dX11_unit_36 rfl (lv_at hl 0 rfl) ?_
      refine q_get (v := .ref (a 5)) C inX11_unit_X11 hK hP 0 rfl rfl 5 (by decide) rfl LX11_unit_20 rfl dX11_unit_37 ?_
      refine lv_aload_n hx hb dX11_unit_40 rfl (lv_at hl 0 rfl) ?_
      refine q_get (v := .int (s1.v 11)) C inX11_unit_X11 hK hP 0 rfl rfl 11 (by decide) rfl LX11_unit_188 rfl dX11_unit_41 ?_
      obtain ⟨g5, hB⟩ := guard_inv hB
      refine q_iald (x := (s1.f 5 (Int32.toNatClampNeg (s1.v 11)))) C hK hP 3 1 rfl rfl (vpb_in g5) dX11_unit_44 rfl ?_
      refine lv_bipush (v := 30) hx hb dX11_unit_45 (by decide) ?_
      refine lv_icmp_lt (tgt := 88) hx hb dX11_unit_47 (by decide) (fun c6 => ?_) (fun c6 => ?_)
      · have hB := if_p hB c6
        exact br_unit_88 _ hB p e s0 m below meth c A E H locs ls hP hD hS (lv_sub hl [0] rfl)
      · have hB := if_n hB c6
        refine lv_aload_n hx hb dX11_unit_50 rfl (lv_at hl 0 rfl) ?_
        refine q_get (v := .ref (a 5)) C inX11_unit_X11 hK hP 0 rfl rfl 5 (by decide) rfl LX11_unit_20 rfl dX11_unit_51 ?_
        refine lv_aload_n hx hb dX11_unit_54 rfl (lv_at hl 0 rfl) ?_
        refine q_get (v := .int (s1.v 11)) C inX11_unit_X11 hK hP 0 rfl rfl 11 (by decide) rfl LX11_unit_188 rfl dX11_unit_55 ?_
        obtain ⟨g7, hB⟩ := guard_inv hB
        refine q_iald (x := (s1.f 5 (Int32.toNatClampNeg (s1.v 11)))) C hK hP 3 1 rfl rfl (vpb_in g7) dX11_unit_58 rfl ?_
        refine lv_bipush (v := 38) hx hb dX11_unit_59 (by decide) ?_
        refine lv_icmp_gt (tgt := 88) hx hb dX11_unit_61 (by decide) (fun c8 => ?_) (fun c8 => ?_)
        · have hB := if_p hB c8
          exact br_unit_88 _ hB p e s0 m below meth c A E H locs ls hP hD hS (lv_sub hl [0] rfl)
        · have hB := if_n hB c8
          refine lv_aload_n hx hb dX11_unit_64 rfl (lv_at hl 0 rfl) ?_
          refine lv_iconst (v := 1) hx hb dX11_unit_65 (by decide) ?_
          refine lv_aload_n hx hb dX11_unit_66 rfl (lv_at hl 0 rfl) ?_
          refine q_get (v := .ref (a 5)) C inX11_unit_X11 hK hP 0 rfl rfl 5 (by decide) rfl LX11_unit_20 rfl dX11_unit_67 ?_
          refine lv_aload_n hx hb dX11_unit_70 rfl (lv_at hl 0 rfl) ?_
          refine q_get (v := .int (s1.v 11)) C inX11_unit_X11 hK hP 0 rfl rfl 11 (by decide) rfl LX11_unit_188 rfl dX11_unit_71 ?_
          obtain ⟨g9, hB⟩ := guard_inv hB
          refine q_iald (x := (s1.f 5 (Int32.toNatClampNeg (s1.v 11)))) C hK hP 3 1 rfl rfl (vpb_in g9) dX11_unit_74 rfl ?_
          refine lv_bipush (v := 30) hx hb dX11_unit_75 (by decide) ?_
          refine lv_isub hx hb dX11_unit_77 ?_
          obtain ⟨s10, hc, hB⟩ := bindP_inv hB
          refine q_govF (va_runV (As := [.int 1, .int ((s1.f 5 (Int32.toNatClampNeg (s1.v 11))) - 30)]) (rest := []) C (cr_emit hc _) (cwV 2 hts gX11_unit_X11_emit rfl rfl rfl (by decide +kernel) ⟨Nat.le_of_ble_eq_true rfl, Nat.le_of_ble_eq_true rfl⟩) (q_preV hK hP (ci := 11) (q0 := 0) rfl rfl rfl (q_preF hN hK hP hD)) rfl rfl hl.1 rfl (lv_room (Nat.le_of_ble_eq_true rfl)) dX11_unit_78 ⟨Nat.le_of_ble_eq_true rfl, Nat.le_of_ble_eq_true rfl⟩) hD hS hA (fun w1 H locs hw hP hD hS => ?_)
          subst hw
          refine lv_aload_n hx hb dX11_unit_81 rfl (lv_at hl 0 rfl) ?_
          obtain ⟨s11, hc, hB⟩ := bindP_inv hB
          refine q_govF (va_runV (As := []) (rest := []) C (cr_goesOn hc _) (cwV 0 hts gX11_unit_X11_goesOn rfl rfl rfl (by decide +kernel) ⟨Nat.le_of_ble_eq_true rfl, Nat.le_of_ble_eq_true rfl⟩) (q_preV hK hP (ci := 11) (q0 := 0) rfl rfl rfl (q_preF hN hK hP hD)) rfl rfl hl.1 rfl (lv_room (Nat.le_of_ble_eq_true rfl)) dX11_unit_82 ⟨Nat.le_of_ble_eq_true rfl, Nat.le_of_ble_eq_true rfl⟩) hD hS hA (fun w1 H locs hw hP hD hS => ?_)
          subst hw
          refine lv_goto (tgt := 93) hx hb dX11_unit_85 (by decide) ?_
          exact q_vret C hr hlocks hK hP hD hS (Nat.le_of_ble_eq_true rfl) (Nat.le_of_ble_eq_true rfl) dX11_unit_93 (by cases hB; rfl)
  · have hB := if_n hB c3
    refine lv_aload_n hx hb dX11_unit_8 rfl (lv_at hl 0 rfl) ?_
    refine lv_iconst (v := 0) hx hb dX11_unit_9 (by decide) ?_
    refine lv_aload_n hx hb dX11_unit_10 rfl (lv_at hl 0 rfl) ?_
    refine q_get (v := .ref (a 7)) C inX11_unit_X11 hK hP 0 rfl rfl 7 (by decide) rfl LX11_unit_27 rfl dX11_unit_11 ?_
    refine lv_aload_n hx hb dX11_unit_14 rfl (lv_at hl 0 rfl) ?_
    refine q_get (v := .int (s1.v 11)) C inX11_unit_X11 hK hP 0 rfl rfl 11 (by decide) rfl LX11_unit_188 rfl dX11_unit_15 ?_
    obtain ⟨g12, hB⟩ := guard_inv hB
    refine q_iald (x := (s1.f 7 (Int32.toNatClampNeg (s1.v 11)))) C hK hP 5 1 rfl rfl (vpb_in g12) dX11_unit_18 rfl ?_
    obtain ⟨s13, hc, hB⟩ := bindP_inv hB
    refine q_govF (va_runV (As := [.int 0, .int (s1.f 7 (Int32.toNatClampNeg (s1.v 11)))]) (rest := []) C (cr_emit hc _) (cwV 2 hts gX11_unit_X11_emit rfl rfl rfl (by decide +kernel) ⟨Nat.le_of_ble_eq_true rfl, Nat.le_of_ble_eq_true rfl⟩) (q_preV hK hP (ci := 11) (q0 := 0) rfl rfl rfl (q_preF hN hK hP hD)) rfl rfl hl.1 rfl (lv_room (Nat.le_of_ble_eq_true rfl)) dX11_unit_19 ⟨Nat.le_of_ble_eq_true rfl, Nat.le_of_ble_eq_true rfl⟩) hD hS hA (fun w1 H locs hw hP hD hS => ?_)
    subst hw
    refine lv_aload_n hx hb dX11_unit_22 rfl (lv_at hl 0 rfl) ?_
    obtain ⟨s14, hc, hB⟩ := bindP_inv hB
    refine q_govF (va_runV (As := []) (rest := []) C (cr_goesOn hc _) (cwV 0 hts gX11_unit_X11_goesOn rfl rfl rfl (by decide +kernel) ⟨Nat.le_of_ble_eq_true rfl, Nat.le_of_ble_eq_true rfl⟩) (q_preV hK hP (ci := 11) (q0 := 0) rfl rfl rfl (q_preF hN hK hP hD)) rfl rfl hl.1 rfl (lv_room (Nat.le_of_ble_eq_true rfl)) dX11_unit_23 ⟨Nat.le_of_ble_eq_true rfl, Nat.le_of_ble_eq_true rfl⟩) hD hS hA (fun w1 H locs hw hP hD hS => ?_)
    subst hw
    refine lv_goto (tgt := 93) hx hb dX11_unit_26 (by decide) ?_
    exact q_vret C hr hlocks hK hP hD hS (Nat.le_of_ble_eq_true rfl) (Nat.le_of_ble_eq_true rfl) dX11_unit_93 (by cases hB; rfl)
theorem cr_unit {l : Launch} {dC : Nat → ClassId} {dI : Nat → Nat → Nat} {cB cI cJ cZ cS : ClassId} {h : Nat} {a : Nat → Nat} {s' : RS} {s : RS} (hB : r_unit s = some s') : CV l yX11_unit wsX11_unit ({ frames := 2, cells := 0, slots := 0, locals := 41 }) (dC, dI) (tysA cB cI cJ cZ cS) (mwS cB cI cJ cZ h a s) [.ref h] (fun u => u = (mwS cB cI cJ cZ h a s')) :=
  CV_of (cc := cX11_unit) (maxL := 1) (ret := none) (by decide) rfl (Nat.le_of_ble_eq_true rfl) (br_unit _ hB)
theorem LX11_comesOut_264 : Cond.fieldLink RX11 264 "GuessFerryModel" "waiting" "I" ∈ wsX11_comesOut := (List.mem_cons_of_mem _ (List.mem_append_left _ (List.mem_append_left _ (List.mem_of_getElem? (i := 0) rfl))))
theorem LX11_comesOut_89 : Cond.fieldLink RX11 89 "GuessFerryModel" "waits" "[I" ∈ wsX11_comesOut := (List.mem_cons_of_mem _ (List.mem_append_left _ (List.mem_append_left _ (List.mem_of_getElem? (i := 1) rfl))))
theorem inX11_comesOut_X11 : ∀ w ∈ u_ws RX11 TX11 58, w ∈ wsX11_comesOut := fun w h => (List.mem_cons_of_mem _ (List.mem_append_right _ h))
set_option maxHeartbeats 4000000 in
set_option maxRecDepth 100000 in
theorem br_comesOut_84 {l : Launch} {dC : Nat → ClassId} {dI : Nat → Nat → Nat} {cB cI cJ cZ cS : ClassId} {h : Nat} {a : Nat → Nat} {as : List Value} {s' : RS} {k0 : RS → Int32 → Option RS} (hk0 : ∀ (s : RS) (x1 : Int32), k0 s x1 = some s' → BlkV l yX11_comesOut wsX11_comesOut ({ frames := 1, cells := 0, slots := 0, locals := 22 }) cX11_comesOut 3 none (dC, dI) (tysA cB cI cJ cZ cS) as 0 (mwS cB cI cJ cZ h a s) [(0, .ref h), (1, .int x1)] [] (fun u => u = (mwS cB cI cJ cZ h a s'))) (s : RS) (x1 : Int32) (t0 : Int32) (hB : r_comesOut_84 k0 s x1 t0 = some s') : BlkV l yX11_comesOut wsX11_comesOut ({ frames := 1, cells := 0, slots := 0, locals := 22 }) cX11_comesOut 3 none (dC, dI) (tysA cB cI cJ cZ cS) as 84 (mwS cB cI cJ cZ h a s) [(0, .ref h), (1, .int x1)] [.int t0, .ref h] (fun u => u = (mwS cB cI cJ cZ h a s')) := by
  intro p e s0 m below meth c A E H locs ls hP hD hS hl
  obtain ⟨C, hr, hlocks, hA, hK, hN⟩ := id E
  obtain ⟨hx, hb, hml, hown, hts⟩ := id C
  unfold r_comesOut_84 at hB
  refine lv_iconst (v := 0) hx hb dX11_comesOut_84 (by decide) ?_
  obtain ⟨s1, hc, hB⟩ := bindP_inv hB
  refine q_govF (va_runV (As := [.int t0, .int 0]) (rest := []) C (cr_emit hc _) (cwV 2 hts gX11_comesOut_X11_emit rfl rfl rfl (by decide +kernel) ⟨Nat.le_of_ble_eq_true rfl, Nat.le_of_ble_eq_true rfl⟩) (q_preV hK hP (ci := 11) (q0 := 0) rfl rfl rfl (q_preF hN hK hP hD)) rfl rfl hl.1 rfl (lv_room (Nat.le_of_ble_eq_true rfl)) dX11_comesOut_85 ⟨Nat.le_of_ble_eq_true rfl, Nat.le_of_ble_eq_true rfl⟩) hD hS hA (fun w1 H locs hw hP hD hS => ?_)
  subst hw
  refine lv_goto (tgt := 0) hx hb dX11_comesOut_88 (by decide) ?_
  exact hk0 _ _ hB p e s0 m below meth c A E H locs ls hP hD hS (lv_sub hl [0, 1] rfl)
set_option maxHeartbeats 4000000 in
set_option maxRecDepth 100000 in
theorem br_comesOut_42 {l : Launch} {dC : Nat → ClassId} {dI : Nat → Nat → Nat} {cB cI cJ cZ cS : ClassId} {h : Nat} {a : Nat → Nat} {as : List Value} {s' : RS} {k0 : RS → Int32 → Option RS} (hk0 : ∀ (s : RS) (x1 : Int32), k0 s x1 = some s' → BlkV l yX11_comesOut wsX11_comesOut ({ frames := 1, cells := 0, slots := 0, locals := 22 }) cX11_comesOut 3 none (dC, dI) (tysA cB cI cJ cZ cS) as 0 (mwS cB cI cJ cZ h a s) [(0, .ref h), (1, .int x1)] [] (fun u => u = (mwS cB cI cJ cZ h a s'))) (s : RS) (x1 : Int32) (x2 : Int32) (hB : r_comesOut_42 k0 s x1 x2 = some s') : BlkV l yX11_comesOut wsX11_comesOut ({ frames := 1, cells := 0, slots := 0, locals := 22 }) cX11_comesOut 3 none (dC, dI) (tysA cB cI cJ cZ cS) as 42 (mwS cB cI cJ cZ h a s) [(0, .ref h), (1, .int x1), (2, .int x2)] [] (fun u => u = (mwS cB cI cJ cZ h a s')) := by
  intro p e s0 m below meth c A E H locs ls hP hD hS hl
  obtain ⟨C, hr, hlocks, hA, hK, hN⟩ := id E
  obtain ⟨hx, hb, hml, hown, hts⟩ := id C
  unfold r_comesOut_42 at hB
  refine lv_aload_n hx hb dX11_comesOut_42 rfl (lv_at hl 0 rfl) ?_
  refine lv_dup hx hb dX11_comesOut_43 rfl ?_
  refine q_get (v := .int (s.v 39)) C inX11_comesOut_X11 hK hP 0 rfl rfl 39 (by decide) rfl LX11_comesOut_264 rfl dX11_comesOut_44 ?_
  refine lv_iconst (v := 1) hx hb dX11_comesOut_47 (by decide) ?_
  refine lv_isub hx hb dX11_comesOut_48 ?_
  obtain ⟨s1, hs2, hB⟩ := letS_inv hB
  refine q_put (ty := .int) (w2 := (mwS cB cI cJ cZ h a s1)) tyX11 tyX11_ok nmX11 C inX11_comesOut_X11 hK hP hD hS 0 rfl rfl 39 (by decide) rfl LX11_comesOut_264 rfl (by decide +kernel) (rfl) rfl (Nat.le_of_ble_eq_true rfl) dX11_comesOut_49 (mwS_v39 hs2) (fun H locs hP hD hS => ?_)
  refine lv_aload_n hx hb dX11_comesOut_52 rfl (lv_at hl 0 rfl) ?_
  refine lv_iload_n hx hb dX11_comesOut_53 rfl (lv_at hl 2 rfl) ?_
  refine lv_bipush (v := 8) hx hb dX11_comesOut_54 (by decide) ?_
  refine lv_icmp_ne (tgt := 63) hx hb dX11_comesOut_56 (by decide) (fun c3 => ?_) (fun c3 => ?_)
  · have hB := if_n hB c3
    refine lv_iload_n hx hb dX11_comesOut_63 rfl (lv_at hl 2 rfl) ?_
    refine lv_bipush (v := 9) hx hb dX11_comesOut_64 (by decide) ?_
    refine lv_icmp_ne (tgt := 73) hx hb dX11_comesOut_66 (by decide) (fun c4 => ?_) (fun c4 => ?_)
    · have hB := if_n hB c4
      refine lv_iload_n hx hb dX11_comesOut_73 rfl (lv_at hl 2 rfl) ?_
      refine lv_bipush (v := 10) hx hb dX11_comesOut_74 (by decide) ?_
      refine lv_icmp_ne (tgt := 83) hx hb dX11_comesOut_76 (by decide) (fun c5 => ?_) (fun c5 => ?_)
      · have hB := if_n hB c5
        refine lv_iconst (v := 5) hx hb dX11_comesOut_83 (by decide) ?_
        exact br_comesOut_84 (hk0) _ _ _ hB p e s0 m below meth c A E H locs ls hP hD hS (lv_sub hl [0, 1] rfl)
      · have hB := if_p hB c5
        refine lv_iconst (v := 4) hx hb dX11_comesOut_79 (by decide) ?_
        refine lv_goto (tgt := 84) hx hb dX11_comesOut_80 (by decide) ?_
        exact br_comesOut_84 (hk0) _ _ _ hB p e s0 m below meth c A E H locs ls hP hD hS (lv_sub hl [0, 1] rfl)
    · have hB := if_p hB c4
      refine lv_iconst (v := 3) hx hb dX11_comesOut_69 (by decide) ?_
      refine lv_goto (tgt := 84) hx hb dX11_comesOut_70 (by decide) ?_
      exact br_comesOut_84 (hk0) _ _ _ hB p e s0 m below meth c A E H locs ls hP hD hS (lv_sub hl [0, 1] rfl)
  · have hB := if_p hB c3
    refine lv_iconst (v := 2) hx hb dX11_comesOut_59 (by decide) ?_
    refine lv_goto (tgt := 84) hx hb dX11_comesOut_60 (by decide) ?_
    exact br_comesOut_84 (hk0) _ _ _ hB p e s0 m below meth c A E H locs ls hP hD hS (lv_sub hl [0, 1] rfl)
set_option maxHeartbeats 4000000 in
set_option maxRecDepth 100000 in
theorem br_comesOut_0 {l : Launch} {dC : Nat → ClassId} {dI : Nat → Nat → Nat} {cB cI cJ cZ cS : ClassId} {h : Nat} {a : Nat → Nat} {as : List Value} {s' : RS} {k0 : RS → Int32 → Option RS} (hk0 : ∀ (s : RS) (x1 : Int32), k0 s x1 = some s' → BlkV l yX11_comesOut wsX11_comesOut ({ frames := 1, cells := 0, slots := 0, locals := 22 }) cX11_comesOut 3 none (dC, dI) (tysA cB cI cJ cZ cS) as 0 (mwS cB cI cJ cZ h a s) [(0, .ref h), (1, .int x1)] [] (fun u => u = (mwS cB cI cJ cZ h a s'))) (s : RS) (x1 : Int32) (hB : r_comesOut_0 k0 s x1 = some s') : BlkV l yX11_comesOut wsX11_comesOut ({ frames := 1, cells := 0, slots := 0, locals := 22 }) cX11_comesOut 3 none (dC, dI) (tysA cB cI cJ cZ cS) as 0 (mwS cB cI cJ cZ h a s) [(0, .ref h), (1, .int x1)] [] (fun u => u = (mwS cB cI cJ cZ h a s')) := by
  intro p e s0 m below meth c A E H locs ls hP hD hS hl
  obtain ⟨C, hr, hlocks, hA, hK, hN⟩ := id E
  obtain ⟨hx, hb, hml, hown, hts⟩ := id C
  unfold r_comesOut_0 at hB
  refine lv_aload_n hx hb dX11_comesOut_0 rfl (lv_at hl 0 rfl) ?_
  refine q_get (v := .int (s.v 39)) C inX11_comesOut_X11 hK hP 0 rfl rfl 39 (by decide) rfl LX11_comesOut_264 rfl dX11_comesOut_1 ?_
  refine lv_if_le (tgt := 91) hx hb dX11_comesOut_4 (by decide) (fun c1 => ?_) (fun c1 => ?_)
  · have hB := if_p hB c1
    exact q_vret C hr hlocks hK hP hD hS (Nat.le_of_ble_eq_true rfl) (Nat.le_of_ble_eq_true rfl) dX11_comesOut_91 (by cases hB; rfl)
  · have hB := if_n hB c1
    refine lv_aload_n hx hb dX11_comesOut_7 rfl (lv_at hl 0 rfl) ?_
    refine q_get (v := .ref (a 38)) C inX11_comesOut_X11 hK hP 0 rfl rfl 38 (by decide) rfl LX11_comesOut_89 rfl dX11_comesOut_8 ?_
    refine lv_aload_n hx hb dX11_comesOut_11 rfl (lv_at hl 0 rfl) ?_
    refine q_get (v := .int (s.v 39)) C inX11_comesOut_X11 hK hP 0 rfl rfl 39 (by decide) rfl LX11_comesOut_264 rfl dX11_comesOut_12 ?_
    refine lv_iconst (v := 1) hx hb dX11_comesOut_15 (by decide) ?_
    refine lv_isub hx hb dX11_comesOut_16 ?_
    obtain ⟨g2, hB⟩ := guard_inv hB
    refine q_iald (x := (s.f 38 (Int32.toNatClampNeg ((s.v 39) - 1)))) C hK hP 24 1 rfl rfl (vpb_in g2) dX11_comesOut_17 rfl ?_
    refine lv_istore_n (lv' := [(2, .int (s.f 38 (Int32.toNatClampNeg ((s.v 39) - 1)))), (0, .ref h), (1, .int x1)]) hx hb dX11_comesOut_18 rfl hl (by decide) rfl (fun ls hl => ?_)
    refine lv_iload_n hx hb dX11_comesOut_19 rfl (lv_at hl 0 rfl) ?_
    refine lv_bipush (v := 6) hx hb dX11_comesOut_20 (by decide) ?_
    refine lv_icmp_eq (tgt := 41) hx hb dX11_comesOut_22 (by decide) (fun c3 => ?_) (fun c3 => ?_)
    · have hB := if_p hB c3
      exact q_vret C hr hlocks hK hP hD hS (Nat.le_of_ble_eq_true rfl) (Nat.le_of_ble_eq_true rfl) dX11_comesOut_41 (by cases hB; rfl)
    · have hB := if_n hB c3
      refine lv_iload_n hx hb dX11_comesOut_25 rfl (lv_at hl 2 rfl) ?_
      refine lv_if_eq (tgt := 42) hx hb dX11_comesOut_26 (by decide) (fun c4 => ?_) (fun c4 => ?_)
      · have hB := if_p hB c4
        exact br_comesOut_42 (hk0) _ _ _ hB p e s0 m below meth c A E H locs ls hP hD hS (lv_sub hl [1, 2, 0] rfl)
      · have hB := if_n hB c4
        refine lv_iload_n hx hb dX11_comesOut_29 rfl (lv_at hl 0 rfl) ?_
        refine lv_bipush (v := 8) hx hb dX11_comesOut_30 (by decide) ?_
        refine lv_icmp_eq (tgt := 41) hx hb dX11_comesOut_32 (by decide) (fun c5 => ?_) (fun c5 => ?_)
        · have hB := if_p hB c5
          exact q_vret C hr hlocks hK hP hD hS (Nat.le_of_ble_eq_true rfl) (Nat.le_of_ble_eq_true rfl) dX11_comesOut_41 (by cases hB; rfl)
        · have hB := if_n hB c5
          refine lv_iload_n hx hb dX11_comesOut_35 rfl (lv_at hl 0 rfl) ?_
          refine lv_bipush (v := 9) hx hb dX11_comesOut_36 (by decide) ?_
          refine lv_icmp_ne (tgt := 42) hx hb dX11_comesOut_38 (by decide) (fun c6 => ?_) (fun c6 => ?_)
          · have hB := if_n hB c6
            exact br_comesOut_42 (hk0) _ _ _ hB p e s0 m below meth c A E H locs ls hP hD hS (lv_sub hl [1, 2, 0] rfl)
          · have hB := if_p hB c6
            exact q_vret C hr hlocks hK hP hD hS (Nat.le_of_ble_eq_true rfl) (Nat.le_of_ble_eq_true rfl) dX11_comesOut_41 (by cases hB; rfl)
theorem br_comesOut_0L {l : Launch} {dC : Nat → ClassId} {dI : Nat → Nat → Nat} {cB cI cJ cZ cS : ClassId} {h : Nat} {a : Nat → Nat} {as : List Value} {s' : RS} : ∀ (n : Nat) (s : RS) (x1 : Int32), r_comesOut_0L n s x1 = some s' → BlkV l yX11_comesOut wsX11_comesOut ({ frames := 1, cells := 0, slots := 0, locals := 22 }) cX11_comesOut 3 none (dC, dI) (tysA cB cI cJ cZ cS) as 0 (mwS cB cI cJ cZ h a s) [(0, .ref h), (1, .int x1)] [] (fun u => u = (mwS cB cI cJ cZ h a s')) := by
  intro n
  induction n with
  | zero => intro s x1 hB; exact none_ne hB
  | succ n ih => intro s x1 hB; exact br_comesOut_0 ih _ _ hB
theorem cr_comesOut {l : Launch} {dC : Nat → ClassId} {dI : Nat → Nat → Nat} {cB cI cJ cZ cS : ClassId} {h : Nat} {a : Nat → Nat} {s' : RS} {s : RS} {x1 : Int32} (hB : r_comesOut s x1 = some s') : CV l yX11_comesOut wsX11_comesOut ({ frames := 1, cells := 0, slots := 0, locals := 22 }) (dC, dI) (tysA cB cI cJ cZ cS) (mwS cB cI cJ cZ h a s) [.ref h, .int x1] (fun u => u = (mwS cB cI cJ cZ h a s')) :=
  CV_of (cc := cX11_comesOut) (maxL := 3) (ret := none) (by decide) rfl (Nat.le_of_ble_eq_true rfl) (br_comesOut_0L fu _ _ hB)
theorem LX11_expression_185 : Cond.fieldLink RX11 185 "GuessFerryModel" "fault" "I" ∈ wsX11_expression := (List.mem_cons_of_mem _ (List.mem_append_left _ (List.mem_append_left _ (List.mem_of_getElem? (i := 2) rfl))))
theorem LX11_expression_188 : Cond.fieldLink RX11 188 "GuessFerryModel" "t" "I" ∈ wsX11_expression := (List.mem_cons_of_mem _ (List.mem_append_left _ (List.mem_append_left _ (List.mem_of_getElem? (i := 5) rfl))))
theorem LX11_expression_20 : Cond.fieldLink RX11 20 "GuessFerryModel" "tKind" "[I" ∈ wsX11_expression := (List.mem_cons_of_mem _ (List.mem_append_left _ (List.mem_append_left _ (List.mem_of_getElem? (i := 4) rfl))))
theorem LX11_expression_212 : Cond.fieldLink RX11 212 "GuessFerryModel" "open" "I" ∈ wsX11_expression := (List.mem_cons_of_mem _ (List.mem_append_left _ (List.mem_append_left _ (List.mem_of_getElem? (i := 1) rfl))))
theorem LX11_expression_264 : Cond.fieldLink RX11 264 "GuessFerryModel" "waiting" "I" ∈ wsX11_expression := (List.mem_cons_of_mem _ (List.mem_append_left _ (List.mem_append_left _ (List.mem_of_getElem? (i := 0) rfl))))
theorem LX11_expression_89 : Cond.fieldLink RX11 89 "GuessFerryModel" "waits" "[I" ∈ wsX11_expression := (List.mem_cons_of_mem _ (List.mem_append_left _ (List.mem_append_left _ (List.mem_of_getElem? (i := 3) rfl))))
theorem inX11_expression_X11 : ∀ w ∈ u_ws RX11 TX11 58, w ∈ wsX11_expression := fun w h => (List.mem_cons_of_mem _ (List.mem_append_right _ h))
set_option maxHeartbeats 4000000 in
set_option maxRecDepth 100000 in
theorem br_expression_234 {l : Launch} {dC : Nat → ClassId} {dI : Nat → Nat → Nat} {cB cI cJ cZ cS : ClassId} {h : Nat} {a : Nat → Nat} {as : List Value} {s' : RS} {k12 : RS → Int32 → Int32 → Option RS} (hk12 : ∀ (s : RS) (x1 : Int32) (x2 : Int32), k12 s x1 x2 = some s' → BlkV l yX11_expression wsX11_expression ({ frames := 3, cells := 0, slots := 0, locals := 61 }) cX11_expression 3 none (dC, dI) (tysA cB cI cJ cZ cS) as 12 (mwS cB cI cJ cZ h a s) [(0, .ref h), (1, .int x1), (2, .int x2)] [] (fun u => u = (mwS cB cI cJ cZ h a s'))) (s : RS) (x1 : Int32) (x2 : Int32) (t0 : Int32) (hB : r_expression_234 k12 s x1 x2 t0 = some s') : BlkV l yX11_expression wsX11_expression ({ frames := 3, cells := 0, slots := 0, locals := 61 }) cX11_expression 3 none (dC, dI) (tysA cB cI cJ cZ cS) as 234 (mwS cB cI cJ cZ h a s) [(0, .ref h), (1, .int x1), (2, .int x2)] [.int t0, .ref h] (fun u => u = (mwS cB cI cJ cZ h a s')) := by
  intro p e s0 m below meth c A E H locs ls hP hD hS hl
  obtain ⟨C, hr, hlocks, hA, hK, hN⟩ := id E
  obtain ⟨hx, hb, hml, hown, hts⟩ := id C
  unfold r_expression_234 at hB
  obtain ⟨s1, hc, hB⟩ := bindP_inv hB
  refine q_govF (va_runV (As := [.int t0]) (rest := []) C (cr_comesOut hc _) (cwV 1 hts gX11_expression_X11_comesOut rfl rfl rfl (by decide +kernel) ⟨Nat.le_of_ble_eq_true rfl, Nat.le_of_ble_eq_true rfl⟩) (q_preV hK hP (ci := 11) (q0 := 0) rfl rfl rfl (q_preF hN hK hP hD)) rfl rfl hl.1 rfl (lv_room (Nat.le_of_ble_eq_true rfl)) dX11_expression_234 ⟨Nat.le_of_ble_eq_true rfl, Nat.le_of_ble_eq_true rfl⟩) hD hS hA (fun w1 H locs hw hP hD hS => ?_)
  subst hw
  refine lv_aload_n hx hb dX11_expression_237 rfl (lv_at hl 0 rfl) ?_
  refine q_get (v := .ref (a 38)) C inX11_expression_X11 hK hP 0 rfl rfl 38 (by decide) rfl LX11_expression_89 rfl dX11_expression_238 ?_
  refine lv_aload_n hx hb dX11_expression_241 rfl (lv_at hl 0 rfl) ?_
  refine q_get (v := .int (s1.v 39)) C inX11_expression_X11 hK hP 0 rfl rfl 39 (by decide) rfl LX11_expression_264 rfl dX11_expression_242 ?_
  refine lv_aload_n hx hb dX11_expression_245 rfl (lv_at hl 0 rfl) ?_
  refine q_get (v := .ref (a 5)) C inX11_expression_X11 hK hP 0 rfl rfl 5 (by decide) rfl LX11_expression_20 rfl dX11_expression_246 ?_
  refine lv_aload_n hx hb dX11_expression_249 rfl (lv_at hl 0 rfl) ?_
  refine q_get (v := .int (s1.v 11)) C inX11_expression_X11 hK hP 0 rfl rfl 11 (by decide) rfl LX11_expression_188 rfl dX11_expression_250 ?_
  obtain ⟨g2, hB⟩ := guard_inv hB
  refine q_iald (x := (s1.f 5 (Int32.toNatClampNeg (s1.v 11)))) C hK hP 3 1 rfl rfl (vpb_in g2) dX11_expression_253 rfl ?_
  obtain ⟨g3, hB⟩ := guard_inv hB
  obtain ⟨s4, hs5, hB⟩ := letS_inv hB
  refine q_iast (f2 := (upd (s1.f 38) (Int32.toNatClampNeg (s1.v 39)) (s1.f 5 (Int32.toNatClampNeg (s1.v 11))))) (w2 := (mwS cB cI cJ cZ h a s4)) C hK hP hD hS 24 1 rfl rfl (vpb_in g3) dX11_expression_254 rfl (mwS_f38 hs5) (fun H locs hP hD hS => ?_)
  refine lv_aload_n hx hb dX11_expression_255 rfl (lv_at hl 0 rfl) ?_
  refine lv_dup hx hb dX11_expression_256 rfl ?_
  refine q_get (v := .int (s4.v 39)) C inX11_expression_X11 hK hP 0 rfl rfl 39 (by decide) rfl LX11_expression_264 rfl dX11_expression_257 ?_
  refine lv_iconst (v := 1) hx hb dX11_expression_260 (by decide) ?_
  refine lv_iadd hx hb dX11_expression_261 ?_
  obtain ⟨s6, hs7, hB⟩ := letS_inv hB
  refine q_put (ty := .int) (w2 := (mwS cB cI cJ cZ h a s6)) tyX11 tyX11_ok nmX11 C inX11_expression_X11 hK hP hD hS 0 rfl rfl 39 (by decide) rfl LX11_expression_264 rfl (by decide +kernel) (rfl) rfl (Nat.le_of_ble_eq_true rfl) dX11_expression_262 (mwS_v39 hs7) (fun H locs hP hD hS => ?_)
  refine lv_aload_n hx hb dX11_expression_265 rfl (lv_at hl 0 rfl) ?_
  obtain ⟨s8, hc, hB⟩ := bindP_inv hB
  refine q_govF (va_runV (As := []) (rest := []) C (cr_goesOn hc _) (cwV 0 hts gX11_expression_X11_goesOn rfl rfl rfl (by decide +kernel) ⟨Nat.le_of_ble_eq_true rfl, Nat.le_of_ble_eq_true rfl⟩) (q_preV hK hP (ci := 11) (q0 := 0) rfl rfl rfl (q_preF hN hK hP hD)) rfl rfl hl.1 rfl (lv_room (Nat.le_of_ble_eq_true rfl)) dX11_expression_266 ⟨Nat.le_of_ble_eq_true rfl, Nat.le_of_ble_eq_true rfl⟩) hD hS hA (fun w1 H locs hw hP hD hS => ?_)
  subst hw
  refine lv_goto (tgt := 12) hx hb dX11_expression_269 (by decide) ?_
  exact hk12 _ _ _ hB p e s0 m below meth c A E H locs ls hP hD hS (lv_sub hl [0, 1, 2] rfl)
set_option maxHeartbeats 4000000 in
set_option maxRecDepth 100000 in
theorem br_expression_229 {l : Launch} {dC : Nat → ClassId} {dI : Nat → Nat → Nat} {cB cI cJ cZ cS : ClassId} {h : Nat} {a : Nat → Nat} {as : List Value} {s' : RS} {k12 : RS → Int32 → Int32 → Option RS} (hk12 : ∀ (s : RS) (x1 : Int32) (x2 : Int32), k12 s x1 x2 = some s' → BlkV l yX11_expression wsX11_expression ({ frames := 3, cells := 0, slots := 0, locals := 61 }) cX11_expression 3 none (dC, dI) (tysA cB cI cJ cZ cS) as 12 (mwS cB cI cJ cZ h a s) [(0, .ref h), (1, .int x1), (2, .int x2)] [] (fun u => u = (mwS cB cI cJ cZ h a s'))) (s : RS) (x1 : Int32) (x2 : Int32) (hB : r_expression_229 k12 s x1 x2 = some s') : BlkV l yX11_expression wsX11_expression ({ frames := 3, cells := 0, slots := 0, locals := 61 }) cX11_expression 3 none (dC, dI) (tysA cB cI cJ cZ cS) as 229 (mwS cB cI cJ cZ h a s) [(0, .ref h), (1, .int x1), (2, .int x2)] [.ref h] (fun u => u = (mwS cB cI cJ cZ h a s')) := by
  intro p e s0 m below meth c A E H locs ls hP hD hS hl
  obtain ⟨C, hr, hlocks, hA, hK, hN⟩ := id E
  obtain ⟨hx, hb, hml, hown, hts⟩ := id C
  unfold r_expression_229 at hB
  refine lv_iconst (v := 1) hx hb dX11_expression_229 (by decide) ?_
  refine lv_goto (tgt := 234) hx hb dX11_expression_230 (by decide) ?_
  exact br_expression_234 (hk12) _ _ _ _ hB p e s0 m below meth c A E H locs ls hP hD hS (lv_sub hl [0, 1, 2] rfl)
set_option maxHeartbeats 4000000 in
set_option maxRecDepth 100000 in
theorem br_expression_204 {l : Launch} {dC : Nat → ClassId} {dI : Nat → Nat → Nat} {cB cI cJ cZ cS : ClassId} {h : Nat} {a : Nat → Nat} {as : List Value} {s' : RS} (s : RS) (hB : r_expression_204 s = some s') : BlkV l yX11_expression wsX11_expression ({ frames := 3, cells := 0, slots := 0, locals := 61 }) cX11_expression 3 none (dC, dI) (tysA cB cI cJ cZ cS) as 204 (mwS cB cI cJ cZ h a s) [(0, .ref h)] [] (fun u => u = (mwS cB cI cJ cZ h a s')) := by
  intro p e s0 m below meth c A E H locs ls hP hD hS hl
  obtain ⟨C, hr, hlocks, hA, hK, hN⟩ := id E
  obtain ⟨hx, hb, hml, hown, hts⟩ := id C
  unfold r_expression_204 at hB
  refine lv_aload_n hx hb dX11_expression_204 rfl (lv_at hl 0 rfl) ?_
  refine lv_iconst (v := 0) hx hb dX11_expression_205 (by decide) ?_
  obtain ⟨s1, hc, hB⟩ := bindP_inv hB
  refine q_govF (va_runV (As := [.int 0]) (rest := []) C (cr_comesOut hc _) (cwV 1 hts gX11_expression_X11_comesOut rfl rfl rfl (by decide +kernel) ⟨Nat.le_of_ble_eq_true rfl, Nat.le_of_ble_eq_true rfl⟩) (q_preV hK hP (ci := 11) (q0 := 0) rfl rfl rfl (q_preF hN hK hP hD)) rfl rfl hl.1 rfl (lv_room (Nat.le_of_ble_eq_true rfl)) dX11_expression_206 ⟨Nat.le_of_ble_eq_true rfl, Nat.le_of_ble_eq_true rfl⟩) hD hS hA (fun w1 H locs hw hP hD hS => ?_)
  subst hw
  exact q_vret C hr hlocks hK hP hD hS (Nat.le_of_ble_eq_true rfl) (Nat.le_of_ble_eq_true rfl) dX11_expression_209 (by cases hB; rfl)
set_option maxHeartbeats 4000000 in
set_option maxRecDepth 100000 in
theorem br_expression_186 {l : Launch} {dC : Nat → ClassId} {dI : Nat → Nat → Nat} {cB cI cJ cZ cS : ClassId} {h : Nat} {a : Nat → Nat} {as : List Value} {s' : RS} {k12 : RS → Int32 → Int32 → Option RS} (hk12 : ∀ (s : RS) (x1 : Int32) (x2 : Int32), k12 s x1 x2 = some s' → BlkV l yX11_expression wsX11_expression ({ frames := 3, cells := 0, slots := 0, locals := 61 }) cX11_expression 3 none (dC, dI) (tysA cB cI cJ cZ cS) as 12 (mwS cB cI cJ cZ h a s) [(0, .ref h), (1, .int x1), (2, .int x2)] [] (fun u => u = (mwS cB cI cJ cZ h a s'))) (s : RS) (x1 : Int32) (t0 : Int32) (hB : r_expression_186 k12 s x1 t0 = some s') : BlkV l yX11_expression wsX11_expression ({ frames := 3, cells := 0, slots := 0, locals := 61 }) cX11_expression 3 none (dC, dI) (tysA cB cI cJ cZ cS) as 186 (mwS cB cI cJ cZ h a s) [(0, .ref h), (1, .int x1)] [.int t0] (fun u => u = (mwS cB cI cJ cZ h a s')) := by
  intro p e s0 m below meth c A E H locs ls hP hD hS hl
  obtain ⟨C, hr, hlocks, hA, hK, hN⟩ := id E
  obtain ⟨hx, hb, hml, hown, hts⟩ := id C
  unfold r_expression_186 at hB
  refine lv_istore_n (lv' := [(2, .int t0), (0, .ref h), (1, .int x1)]) hx hb dX11_expression_186 rfl hl (by decide) rfl (fun ls hl => ?_)
  refine lv_iload_n hx hb dX11_expression_187 rfl (lv_at hl 0 rfl) ?_
  refine lv_if_ne (tgt := 210) hx hb dX11_expression_188 (by decide) (fun c1 => ?_) (fun c1 => ?_)
  · have hB := if_n hB c1
    refine lv_aload_n hx hb dX11_expression_210 rfl (lv_at hl 1 rfl) ?_
    refine lv_aload_n hx hb dX11_expression_211 rfl (lv_at hl 1 rfl) ?_
    refine lv_bipush (v := 10) hx hb dX11_expression_212 (by decide) ?_
    obtain ⟨q_, s2, hc, hB⟩ := bindI_inv hB
    refine q_goiF (va_runV (As := [.int 10]) (rest := [.ref h]) C (cr_is hc _) (cwV 1 hts gX11_expression_X11_is rfl rfl rfl (by decide +kernel) ⟨Nat.le_of_ble_eq_true rfl, Nat.le_of_ble_eq_true rfl⟩) (q_preV hK hP (ci := 11) (q0 := 0) rfl rfl rfl (q_preF hN hK hP hD)) rfl rfl hl.1 rfl (lv_room (Nat.le_of_ble_eq_true rfl)) dX11_expression_214 ⟨Nat.le_of_ble_eq_true rfl, Nat.le_of_ble_eq_true rfl⟩) hD hS hA (fun r3 w1 H locs hw hP hD hS => ?_)
    obtain ⟨hq_, hw⟩ := hw; subst hw; subst hq_
    refine lv_if_ne (tgt := 229) hx hb dX11_expression_217 (by decide) (fun c4 => ?_) (fun c4 => ?_)
    · have hB := if_n hB c4
      exact br_expression_229 (hk12) _ _ _ hB p e s0 m below meth c A E H locs ls hP hD hS (lv_sub hl [1, 2, 0] rfl)
    · have hB := if_p hB c4
      refine lv_aload_n hx hb dX11_expression_220 rfl (lv_at hl 1 rfl) ?_
      refine lv_bipush (v := 15) hx hb dX11_expression_221 (by decide) ?_
      obtain ⟨q_, s5, hc, hB⟩ := bindI_inv hB
      refine q_goiF (va_runV (As := [.int 15]) (rest := [.ref h]) C (cr_is hc _) (cwV 1 hts gX11_expression_X11_is rfl rfl rfl (by decide +kernel) ⟨Nat.le_of_ble_eq_true rfl, Nat.le_of_ble_eq_true rfl⟩) (q_preV hK hP (ci := 11) (q0 := 0) rfl rfl rfl (q_preF hN hK hP hD)) rfl rfl hl.1 rfl (lv_room (Nat.le_of_ble_eq_true rfl)) dX11_expression_223 ⟨Nat.le_of_ble_eq_true rfl, Nat.le_of_ble_eq_true rfl⟩) hD hS hA (fun r6 w1 H locs hw hP hD hS => ?_)
      obtain ⟨hq_, hw⟩ := hw; subst hw; subst hq_
      refine lv_if_eq (tgt := 233) hx hb dX11_expression_226 (by decide) (fun c7 => ?_) (fun c7 => ?_)
      · have hB := if_p hB c7
        refine lv_iconst (v := 0) hx hb dX11_expression_233 (by decide) ?_
        exact br_expression_234 (hk12) _ _ _ _ hB p e s0 m below meth c A E H locs ls hP hD hS (lv_sub hl [1, 2, 0] rfl)
      · have hB := if_n hB c7
        exact br_expression_229 (hk12) _ _ _ hB p e s0 m below meth c A E H locs ls hP hD hS (lv_sub hl [1, 2, 0] rfl)
  · have hB := if_p hB c1
    refine lv_aload_n hx hb dX11_expression_191 rfl (lv_at hl 1 rfl) ?_
    refine q_get (v := .int (s.v 12)) C inX11_expression_X11 hK hP 0 rfl rfl 12 (by decide) rfl LX11_expression_212 rfl dX11_expression_192 ?_
    refine lv_iload_n hx hb dX11_expression_195 rfl (lv_at hl 2 rfl) ?_
    refine lv_icmp_le (tgt := 204) hx hb dX11_expression_196 (by decide) (fun c8 => ?_) (fun c8 => ?_)
    · have hB := if_p hB c8
      exact br_expression_204 _ hB p e s0 m below meth c A E H locs ls hP hD hS (lv_sub hl [1] rfl)
    · have hB := if_n hB c8
      refine lv_aload_n hx hb dX11_expression_199 rfl (lv_at hl 1 rfl) ?_
      refine lv_iconst (v := 1) hx hb dX11_expression_200 (by decide) ?_
      obtain ⟨s9, hc, hB⟩ := bindP_inv hB
      refine q_govF (va_runV (As := [.int 1]) (rest := []) C (cr_fail hc _) (cwV 1 hts gX11_expression_X11_fail rfl rfl rfl (by decide +kernel) ⟨Nat.le_of_ble_eq_true rfl, Nat.le_of_ble_eq_true rfl⟩) (q_preV hK hP (ci := 11) (q0 := 0) rfl rfl rfl (q_preF hN hK hP hD)) rfl rfl hl.1 rfl (lv_room (Nat.le_of_ble_eq_true rfl)) dX11_expression_201 ⟨Nat.le_of_ble_eq_true rfl, Nat.le_of_ble_eq_true rfl⟩) hD hS hA (fun w1 H locs hw hP hD hS => ?_)
      subst hw
      exact br_expression_204 _ hB p e s0 m below meth c A E H locs ls hP hD hS (lv_sub hl [1] rfl)
set_option maxHeartbeats 4000000 in
set_option maxRecDepth 100000 in
theorem br_expression_181 {l : Launch} {dC : Nat → ClassId} {dI : Nat → Nat → Nat} {cB cI cJ cZ cS : ClassId} {h : Nat} {a : Nat → Nat} {as : List Value} {s' : RS} {k12 : RS → Int32 → Int32 → Option RS} (hk12 : ∀ (s : RS) (x1 : Int32) (x2 : Int32), k12 s x1 x2 = some s' → BlkV l yX11_expression wsX11_expression ({ frames := 3, cells := 0, slots := 0, locals := 61 }) cX11_expression 3 none (dC, dI) (tysA cB cI cJ cZ cS) as 12 (mwS cB cI cJ cZ h a s) [(0, .ref h), (1, .int x1), (2, .int x2)] [] (fun u => u = (mwS cB cI cJ cZ h a s'))) (s : RS) (x1 : Int32) (hB : r_expression_181 k12 s x1 = some s') : BlkV l yX11_expression wsX11_expression ({ frames := 3, cells := 0, slots := 0, locals := 61 }) cX11_expression 3 none (dC, dI) (tysA cB cI cJ cZ cS) as 181 (mwS cB cI cJ cZ h a s) [(0, .ref h), (1, .int x1)] [] (fun u => u = (mwS cB cI cJ cZ h a s')) := by
  intro p e s0 m below meth c A E H locs ls hP hD hS hl
  obtain ⟨C, hr, hlocks, hA, hK, hN⟩ := id E
  obtain ⟨hx, hb, hml, hown, hts⟩ := id C
  unfold r_expression_181 at hB
  refine lv_iconst (v := 1) hx hb dX11_expression_181 (by decide) ?_
  refine lv_goto (tgt := 186) hx hb dX11_expression_182 (by decide) ?_
  exact br_expression_186 (hk12) _ _ _ hB p e s0 m below meth c A E H locs ls hP hD hS (lv_sub hl [0, 1] rfl)
set_option maxHeartbeats 4000000 in
set_option maxRecDepth 100000 in
theorem br_expression_145 {l : Launch} {dC : Nat → ClassId} {dI : Nat → Nat → Nat} {cB cI cJ cZ cS : ClassId} {h : Nat} {a : Nat → Nat} {as : List Value} {s' : RS} {k12 : RS → Int32 → Int32 → Option RS} (hk12 : ∀ (s : RS) (x1 : Int32) (x2 : Int32), k12 s x1 x2 = some s' → BlkV l yX11_expression wsX11_expression ({ frames := 3, cells := 0, slots := 0, locals := 61 }) cX11_expression 3 none (dC, dI) (tysA cB cI cJ cZ cS) as 12 (mwS cB cI cJ cZ h a s) [(0, .ref h), (1, .int x1), (2, .int x2)] [] (fun u => u = (mwS cB cI cJ cZ h a s'))) (s : RS) (x1 : Int32) (hB : r_expression_145 k12 s x1 = some s') : BlkV l yX11_expression wsX11_expression ({ frames := 3, cells := 0, slots := 0, locals := 61 }) cX11_expression 3 none (dC, dI) (tysA cB cI cJ cZ cS) as 145 (mwS cB cI cJ cZ h a s) [(0, .ref h), (1, .int x1)] [] (fun u => u = (mwS cB cI cJ cZ h a s')) := by
  intro p e s0 m below meth c A E H locs ls hP hD hS hl
  obtain ⟨C, hr, hlocks, hA, hK, hN⟩ := id E
  obtain ⟨hx, hb, hml, hown, hts⟩ := id C
  unfold r_expression_145 at hB
  refine lv_aload_n hx hb dX11_expression_145 rfl (lv_at hl 0 rfl) ?_
  refine lv_bipush (v := 8) hx hb dX11_expression_146 (by decide) ?_
  obtain ⟨q_, s1, hc, hB⟩ := bindI_inv hB
  refine q_goiF (va_runV (As := [.int 8]) (rest := []) C (cr_is hc _) (cwV 1 hts gX11_expression_X11_is rfl rfl rfl (by decide +kernel) ⟨Nat.le_of_ble_eq_true rfl, Nat.le_of_ble_eq_true rfl⟩) (q_preV hK hP (ci := 11) (q0 := 0) rfl rfl rfl (q_preF hN hK hP hD)) rfl rfl hl.1 rfl (lv_room (Nat.le_of_ble_eq_true rfl)) dX11_expression_148 ⟨Nat.le_of_ble_eq_true rfl, Nat.le_of_ble_eq_true rfl⟩) hD hS hA (fun r2 w1 H locs hw hP hD hS => ?_)
  obtain ⟨hq_, hw⟩ := hw; subst hw; subst hq_
  refine lv_if_ne (tgt := 181) hx hb dX11_expression_151 (by decide) (fun c3 => ?_) (fun c3 => ?_)
  · have hB := if_n hB c3
    exact br_expression_181 (hk12) _ _ hB p e s0 m below meth c A E H locs ls hP hD hS (lv_sub hl [0, 1] rfl)
  · have hB := if_p hB c3
    refine lv_aload_n hx hb dX11_expression_154 rfl (lv_at hl 0 rfl) ?_
    refine lv_bipush (v := 9) hx hb dX11_expression_155 (by decide) ?_
    obtain ⟨q_, s4, hc, hB⟩ := bindI_inv hB
    refine q_goiF (va_runV (As := [.int 9]) (rest := []) C (cr_is hc _) (cwV 1 hts gX11_expression_X11_is rfl rfl rfl (by decide +kernel) ⟨Nat.le_of_ble_eq_true rfl, Nat.le_of_ble_eq_true rfl⟩) (q_preV hK hP (ci := 11) (q0 := 0) rfl rfl rfl (q_preF hN hK hP hD)) rfl rfl hl.1 rfl (lv_room (Nat.le_of_ble_eq_true rfl)) dX11_expression_157 ⟨Nat.le_of_ble_eq_true rfl, Nat.le_of_ble_eq_true rfl⟩) hD hS hA (fun r5 w1 H locs hw hP hD hS => ?_)
    obtain ⟨hq_, hw⟩ := hw; subst hw; subst hq_
    refine lv_if_ne (tgt := 181) hx hb dX11_expression_160 (by decide) (fun c6 => ?_) (fun c6 => ?_)
    · have hB := if_n hB c6
      exact br_expression_181 (hk12) _ _ hB p e s0 m below meth c A E H locs ls hP hD hS (lv_sub hl [0, 1] rfl)
    · have hB := if_p hB c6
      refine lv_aload_n hx hb dX11_expression_163 rfl (lv_at hl 0 rfl) ?_
      refine lv_bipush (v := 10) hx hb dX11_expression_164 (by decide) ?_
      obtain ⟨q_, s7, hc, hB⟩ := bindI_inv hB
      refine q_goiF (va_runV (As := [.int 10]) (rest := []) C (cr_is hc _) (cwV 1 hts gX11_expression_X11_is rfl rfl rfl (by decide +kernel) ⟨Nat.le_of_ble_eq_true rfl, Nat.le_of_ble_eq_true rfl⟩) (q_preV hK hP (ci := 11) (q0 := 0) rfl rfl rfl (q_preF hN hK hP hD)) rfl rfl hl.1 rfl (lv_room (Nat.le_of_ble_eq_true rfl)) dX11_expression_166 ⟨Nat.le_of_ble_eq_true rfl, Nat.le_of_ble_eq_true rfl⟩) hD hS hA (fun r8 w1 H locs hw hP hD hS => ?_)
      obtain ⟨hq_, hw⟩ := hw; subst hw; subst hq_
      refine lv_if_ne (tgt := 181) hx hb dX11_expression_169 (by decide) (fun c9 => ?_) (fun c9 => ?_)
      · have hB := if_n hB c9
        exact br_expression_181 (hk12) _ _ hB p e s0 m below meth c A E H locs ls hP hD hS (lv_sub hl [0, 1] rfl)
      · have hB := if_p hB c9
        refine lv_aload_n hx hb dX11_expression_172 rfl (lv_at hl 0 rfl) ?_
        refine lv_bipush (v := 15) hx hb dX11_expression_173 (by decide) ?_
        obtain ⟨q_, s10, hc, hB⟩ := bindI_inv hB
        refine q_goiF (va_runV (As := [.int 15]) (rest := []) C (cr_is hc _) (cwV 1 hts gX11_expression_X11_is rfl rfl rfl (by decide +kernel) ⟨Nat.le_of_ble_eq_true rfl, Nat.le_of_ble_eq_true rfl⟩) (q_preV hK hP (ci := 11) (q0 := 0) rfl rfl rfl (q_preF hN hK hP hD)) rfl rfl hl.1 rfl (lv_room (Nat.le_of_ble_eq_true rfl)) dX11_expression_175 ⟨Nat.le_of_ble_eq_true rfl, Nat.le_of_ble_eq_true rfl⟩) hD hS hA (fun r11 w1 H locs hw hP hD hS => ?_)
        obtain ⟨hq_, hw⟩ := hw; subst hw; subst hq_
        refine lv_if_eq (tgt := 185) hx hb dX11_expression_178 (by decide) (fun c12 => ?_) (fun c12 => ?_)
        · have hB := if_p hB c12
          refine lv_iconst (v := 0) hx hb dX11_expression_185 (by decide) ?_
          exact br_expression_186 (hk12) _ _ _ hB p e s0 m below meth c A E H locs ls hP hD hS (lv_sub hl [0, 1] rfl)
        · have hB := if_n hB c12
          exact br_expression_181 (hk12) _ _ hB p e s0 m below meth c A E H locs ls hP hD hS (lv_sub hl [0, 1] rfl)
set_option maxHeartbeats 4000000 in
set_option maxRecDepth 100000 in
theorem br_expression_96 {l : Launch} {dC : Nat → ClassId} {dI : Nat → Nat → Nat} {cB cI cJ cZ cS : ClassId} {h : Nat} {a : Nat → Nat} {as : List Value} {s' : RS} {k12 : RS → Int32 → Int32 → Option RS} {k96 : RS → Int32 → Option RS} (hk12 : ∀ (s : RS) (x1 : Int32) (x2 : Int32), k12 s x1 x2 = some s' → BlkV l yX11_expression wsX11_expression ({ frames := 3, cells := 0, slots := 0, locals := 61 }) cX11_expression 3 none (dC, dI) (tysA cB cI cJ cZ cS) as 12 (mwS cB cI cJ cZ h a s) [(0, .ref h), (1, .int x1), (2, .int x2)] [] (fun u => u = (mwS cB cI cJ cZ h a s'))) (hk96 : ∀ (s : RS) (x1 : Int32), k96 s x1 = some s' → BlkV l yX11_expression wsX11_expression ({ frames := 3, cells := 0, slots := 0, locals := 61 }) cX11_expression 3 none (dC, dI) (tysA cB cI cJ cZ cS) as 96 (mwS cB cI cJ cZ h a s) [(0, .ref h), (1, .int x1)] [] (fun u => u = (mwS cB cI cJ cZ h a s'))) (s : RS) (x1 : Int32) (hB : r_expression_96 k12 k96 s x1 = some s') : BlkV l yX11_expression wsX11_expression ({ frames := 3, cells := 0, slots := 0, locals := 61 }) cX11_expression 3 none (dC, dI) (tysA cB cI cJ cZ cS) as 96 (mwS cB cI cJ cZ h a s) [(0, .ref h), (1, .int x1)] [] (fun u => u = (mwS cB cI cJ cZ h a s')) := by
  intro p e s0 m below meth c A E H locs ls hP hD hS hl
  obtain ⟨C, hr, hlocks, hA, hK, hN⟩ := id E
  obtain ⟨hx, hb, hml, hown, hts⟩ := id C
  unfold r_expression_96 at hB
  refine lv_aload_n hx hb dX11_expression_96 rfl (lv_at hl 0 rfl) ?_
  refine lv_bipush (v := 7) hx hb dX11_expression_97 (by decide) ?_
  obtain ⟨q_, s1, hc, hB⟩ := bindI_inv hB
  refine q_goiF (va_runV (As := [.int 7]) (rest := []) C (cr_is hc _) (cwV 1 hts gX11_expression_X11_is rfl rfl rfl (by decide +kernel) ⟨Nat.le_of_ble_eq_true rfl, Nat.le_of_ble_eq_true rfl⟩) (q_preV hK hP (ci := 11) (q0 := 0) rfl rfl rfl (q_preF hN hK hP hD)) rfl rfl hl.1 rfl (lv_room (Nat.le_of_ble_eq_true rfl)) dX11_expression_99 ⟨Nat.le_of_ble_eq_true rfl, Nat.le_of_ble_eq_true rfl⟩) hD hS hA (fun r2 w1 H locs hw hP hD hS => ?_)
  obtain ⟨hq_, hw⟩ := hw; subst hw; subst hq_
  refine lv_if_eq (tgt := 145) hx hb dX11_expression_102 (by decide) (fun c3 => ?_) (fun c3 => ?_)
  · have hB := if_p hB c3
    exact br_expression_145 (hk12) _ _ hB p e s0 m below meth c A E H locs ls hP hD hS (lv_sub hl [0, 1] rfl)
  · have hB := if_n hB c3
    refine lv_aload_n hx hb dX11_expression_105 rfl (lv_at hl 0 rfl) ?_
    refine q_get (v := .int (s1.v 12)) C inX11_expression_X11 hK hP 0 rfl rfl 12 (by decide) rfl LX11_expression_212 rfl dX11_expression_106 ?_
    refine lv_iload_n hx hb dX11_expression_109 rfl (lv_at hl 1 rfl) ?_
    refine lv_icmp_le (tgt := 145) hx hb dX11_expression_110 (by decide) (fun c4 => ?_) (fun c4 => ?_)
    · have hB := if_p hB c4
      exact br_expression_145 (hk12) _ _ hB p e s0 m below meth c A E H locs ls hP hD hS (lv_sub hl [0, 1] rfl)
    · have hB := if_n hB c4
      refine lv_aload_n hx hb dX11_expression_113 rfl (lv_at hl 0 rfl) ?_
      refine lv_iconst (v := 0) hx hb dX11_expression_114 (by decide) ?_
      obtain ⟨s5, hc, hB⟩ := bindP_inv hB
      refine q_govF (va_runV (As := [.int 0]) (rest := []) C (cr_comesOut hc _) (cwV 1 hts gX11_expression_X11_comesOut rfl rfl rfl (by decide +kernel) ⟨Nat.le_of_ble_eq_true rfl, Nat.le_of_ble_eq_true rfl⟩) (q_preV hK hP (ci := 11) (q0 := 0) rfl rfl rfl (q_preF hN hK hP hD)) rfl rfl hl.1 rfl (lv_room (Nat.le_of_ble_eq_true rfl)) dX11_expression_115 ⟨Nat.le_of_ble_eq_true rfl, Nat.le_of_ble_eq_true rfl⟩) hD hS hA (fun w1 H locs hw hP hD hS => ?_)
      subst hw
      refine lv_aload_n hx hb dX11_expression_118 rfl (lv_at hl 0 rfl) ?_
      refine lv_dup hx hb dX11_expression_119 rfl ?_
      refine q_get (v := .int (s5.v 39)) C inX11_expression_X11 hK hP 0 rfl rfl 39 (by decide) rfl LX11_expression_264 rfl dX11_expression_120 ?_
      refine lv_iconst (v := 1) hx hb dX11_expression_123 (by decide) ?_
      refine lv_isub hx hb dX11_expression_124 ?_
      obtain ⟨s6, hs7, hB⟩ := letS_inv hB
      refine q_put (ty := .int) (w2 := (mwS cB cI cJ cZ h a s6)) tyX11 tyX11_ok nmX11 C inX11_expression_X11 hK hP hD hS 0 rfl rfl 39 (by decide) rfl LX11_expression_264 rfl (by decide +kernel) (rfl) rfl (Nat.le_of_ble_eq_true rfl) dX11_expression_125 (mwS_v39 hs7) (fun H locs hP hD hS => ?_)
      refine lv_aload_n hx hb dX11_expression_128 rfl (lv_at hl 0 rfl) ?_
      refine lv_dup hx hb dX11_expression_129 rfl ?_
      refine q_get (v := .int (s6.v 12)) C inX11_expression_X11 hK hP 0 rfl rfl 12 (by decide) rfl LX11_expression_212 rfl dX11_expression_130 ?_
      refine lv_iconst (v := 1) hx hb dX11_expression_133 (by decide) ?_
      refine lv_isub hx hb dX11_expression_134 ?_
      obtain ⟨s8, hs9, hB⟩ := letS_inv hB
      refine q_put (ty := .int) (w2 := (mwS cB cI cJ cZ h a s8)) tyX11 tyX11_ok nmX11 C inX11_expression_X11 hK hP hD hS 0 rfl rfl 12 (by decide) rfl LX11_expression_212 rfl (by decide +kernel) (rfl) rfl (Nat.le_of_ble_eq_true rfl) dX11_expression_135 (mwS_v12 hs9) (fun H locs hP hD hS => ?_)
      refine lv_aload_n hx hb dX11_expression_138 rfl (lv_at hl 0 rfl) ?_
      obtain ⟨s10, hc, hB⟩ := bindP_inv hB
      refine q_govF (va_runV (As := []) (rest := []) C (cr_goesOn hc _) (cwV 0 hts gX11_expression_X11_goesOn rfl rfl rfl (by decide +kernel) ⟨Nat.le_of_ble_eq_true rfl, Nat.le_of_ble_eq_true rfl⟩) (q_preV hK hP (ci := 11) (q0 := 0) rfl rfl rfl (q_preF hN hK hP hD)) rfl rfl hl.1 rfl (lv_room (Nat.le_of_ble_eq_true rfl)) dX11_expression_139 ⟨Nat.le_of_ble_eq_true rfl, Nat.le_of_ble_eq_true rfl⟩) hD hS hA (fun w1 H locs hw hP hD hS => ?_)
      subst hw
      refine lv_goto (tgt := 96) hx hb dX11_expression_142 (by decide) ?_
      exact hk96 _ _ hB p e s0 m below meth c A E H locs ls hP hD hS (lv_sub hl [0, 1] rfl)
theorem br_expression_96L {l : Launch} {dC : Nat → ClassId} {dI : Nat → Nat → Nat} {cB cI cJ cZ cS : ClassId} {h : Nat} {a : Nat → Nat} {as : List Value} {s' : RS} {k12 : RS → Int32 → Int32 → Option RS} (hk12 : ∀ (s : RS) (x1 : Int32) (x2 : Int32), k12 s x1 x2 = some s' → BlkV l yX11_expression wsX11_expression ({ frames := 3, cells := 0, slots := 0, locals := 61 }) cX11_expression 3 none (dC, dI) (tysA cB cI cJ cZ cS) as 12 (mwS cB cI cJ cZ h a s) [(0, .ref h), (1, .int x1), (2, .int x2)] [] (fun u => u = (mwS cB cI cJ cZ h a s'))) : ∀ (n : Nat) (s : RS) (x1 : Int32), r_expression_96L k12 n s x1 = some s' → BlkV l yX11_expression wsX11_expression ({ frames := 3, cells := 0, slots := 0, locals := 61 }) cX11_expression 3 none (dC, dI) (tysA cB cI cJ cZ cS) as 96 (mwS cB cI cJ cZ h a s) [(0, .ref h), (1, .int x1)] [] (fun u => u = (mwS cB cI cJ cZ h a s')) := by
  intro n
  induction n with
  | zero => intro s x1 hB; exact none_ne hB
  | succ n ih => intro s x1 hB; exact br_expression_96 hk12 ih _ _ hB
set_option maxHeartbeats 4000000 in
set_option maxRecDepth 100000 in
theorem br_expression_46 {l : Launch} {dC : Nat → ClassId} {dI : Nat → Nat → Nat} {cB cI cJ cZ cS : ClassId} {h : Nat} {a : Nat → Nat} {as : List Value} {s' : RS} {k12 : RS → Int32 → Int32 → Option RS} {k23 : RS → Int32 → Option RS} (hk12 : ∀ (s : RS) (x1 : Int32) (x2 : Int32), k12 s x1 x2 = some s' → BlkV l yX11_expression wsX11_expression ({ frames := 3, cells := 0, slots := 0, locals := 61 }) cX11_expression 3 none (dC, dI) (tysA cB cI cJ cZ cS) as 12 (mwS cB cI cJ cZ h a s) [(0, .ref h), (1, .int x1), (2, .int x2)] [] (fun u => u = (mwS cB cI cJ cZ h a s'))) (hk23 : ∀ (s : RS) (x1 : Int32), k23 s x1 = some s' → BlkV l yX11_expression wsX11_expression ({ frames := 3, cells := 0, slots := 0, locals := 61 }) cX11_expression 3 none (dC, dI) (tysA cB cI cJ cZ cS) as 23 (mwS cB cI cJ cZ h a s) [(0, .ref h), (1, .int x1)] [] (fun u => u = (mwS cB cI cJ cZ h a s'))) (s : RS) (x1 : Int32) (hB : r_expression_46 k12 k23 s x1 = some s') : BlkV l yX11_expression wsX11_expression ({ frames := 3, cells := 0, slots := 0, locals := 61 }) cX11_expression 3 none (dC, dI) (tysA cB cI cJ cZ cS) as 46 (mwS cB cI cJ cZ h a s) [(0, .ref h), (1, .int x1)] [] (fun u => u = (mwS cB cI cJ cZ h a s')) := by
  intro p e s0 m below meth c A E H locs ls hP hD hS hl
  obtain ⟨C, hr, hlocks, hA, hK, hN⟩ := id E
  obtain ⟨hx, hb, hml, hown, hts⟩ := id C
  unfold r_expression_46 at hB
  refine lv_aload_n hx hb dX11_expression_46 rfl (lv_at hl 0 rfl) ?_
  refine lv_dup hx hb dX11_expression_47 rfl ?_
  refine q_get (v := .int (s.v 12)) C inX11_expression_X11 hK hP 0 rfl rfl 12 (by decide) rfl LX11_expression_212 rfl dX11_expression_48 ?_
  refine lv_iconst (v := 1) hx hb dX11_expression_51 (by decide) ?_
  refine lv_iadd hx hb dX11_expression_52 ?_
  obtain ⟨s1, hs2, hB⟩ := letS_inv hB
  refine q_put (ty := .int) (w2 := (mwS cB cI cJ cZ h a s1)) tyX11 tyX11_ok nmX11 C inX11_expression_X11 hK hP hD hS 0 rfl rfl 12 (by decide) rfl LX11_expression_212 rfl (by decide +kernel) (rfl) rfl (Nat.le_of_ble_eq_true rfl) dX11_expression_53 (mwS_v12 hs2) (fun H locs hP hD hS => ?_)
  refine lv_aload_n hx hb dX11_expression_56 rfl (lv_at hl 0 rfl) ?_
  obtain ⟨s3, hc, hB⟩ := bindP_inv hB
  refine q_govF (va_runV (As := []) (rest := []) C (cr_goesOn hc _) (cwV 0 hts gX11_expression_X11_goesOn rfl rfl rfl (by decide +kernel) ⟨Nat.le_of_ble_eq_true rfl, Nat.le_of_ble_eq_true rfl⟩) (q_preV hK hP (ci := 11) (q0 := 0) rfl rfl rfl (q_preF hN hK hP hD)) rfl rfl hl.1 rfl (lv_room (Nat.le_of_ble_eq_true rfl)) dX11_expression_57 ⟨Nat.le_of_ble_eq_true rfl, Nat.le_of_ble_eq_true rfl⟩) hD hS hA (fun w1 H locs hw hP hD hS => ?_)
  subst hw
  refine lv_aload_n hx hb dX11_expression_60 rfl (lv_at hl 0 rfl) ?_
  refine q_get (v := .ref (a 38)) C inX11_expression_X11 hK hP 0 rfl rfl 38 (by decide) rfl LX11_expression_89 rfl dX11_expression_61 ?_
  refine lv_aload_n hx hb dX11_expression_64 rfl (lv_at hl 0 rfl) ?_
  refine q_get (v := .int (s3.v 39)) C inX11_expression_X11 hK hP 0 rfl rfl 39 (by decide) rfl LX11_expression_264 rfl dX11_expression_65 ?_
  refine lv_bipush (v := 6) hx hb dX11_expression_68 (by decide) ?_
  obtain ⟨g4, hB⟩ := guard_inv hB
  obtain ⟨s5, hs6, hB⟩ := letS_inv hB
  refine q_iast (f2 := (upd (s3.f 38) (Int32.toNatClampNeg (s3.v 39)) 6)) (w2 := (mwS cB cI cJ cZ h a s5)) C hK hP hD hS 24 1 rfl rfl (vpb_in g4) dX11_expression_70 rfl (mwS_f38 hs6) (fun H locs hP hD hS => ?_)
  refine lv_aload_n hx hb dX11_expression_71 rfl (lv_at hl 0 rfl) ?_
  refine lv_dup hx hb dX11_expression_72 rfl ?_
  refine q_get (v := .int (s5.v 39)) C inX11_expression_X11 hK hP 0 rfl rfl 39 (by decide) rfl LX11_expression_264 rfl dX11_expression_73 ?_
  refine lv_iconst (v := 1) hx hb dX11_expression_76 (by decide) ?_
  refine lv_iadd hx hb dX11_expression_77 ?_
  obtain ⟨s7, hs8, hB⟩ := letS_inv hB
  refine q_put (ty := .int) (w2 := (mwS cB cI cJ cZ h a s7)) tyX11 tyX11_ok nmX11 C inX11_expression_X11 hK hP hD hS 0 rfl rfl 39 (by decide) rfl LX11_expression_264 rfl (by decide +kernel) (rfl) rfl (Nat.le_of_ble_eq_true rfl) dX11_expression_78 (mwS_v39 hs8) (fun H locs hP hD hS => ?_)
  refine lv_goto (tgt := 23) hx hb dX11_expression_81 (by decide) ?_
  exact hk23 _ _ hB p e s0 m below meth c A E H locs ls hP hD hS (lv_sub hl [0, 1] rfl)
set_option maxHeartbeats 4000000 in
set_option maxRecDepth 100000 in
theorem br_expression_23 {l : Launch} {dC : Nat → ClassId} {dI : Nat → Nat → Nat} {cB cI cJ cZ cS : ClassId} {h : Nat} {a : Nat → Nat} {as : List Value} {s' : RS} {k12 : RS → Int32 → Int32 → Option RS} {k23 : RS → Int32 → Option RS} (hk12 : ∀ (s : RS) (x1 : Int32) (x2 : Int32), k12 s x1 x2 = some s' → BlkV l yX11_expression wsX11_expression ({ frames := 3, cells := 0, slots := 0, locals := 61 }) cX11_expression 3 none (dC, dI) (tysA cB cI cJ cZ cS) as 12 (mwS cB cI cJ cZ h a s) [(0, .ref h), (1, .int x1), (2, .int x2)] [] (fun u => u = (mwS cB cI cJ cZ h a s'))) (hk23 : ∀ (s : RS) (x1 : Int32), k23 s x1 = some s' → BlkV l yX11_expression wsX11_expression ({ frames := 3, cells := 0, slots := 0, locals := 61 }) cX11_expression 3 none (dC, dI) (tysA cB cI cJ cZ cS) as 23 (mwS cB cI cJ cZ h a s) [(0, .ref h), (1, .int x1)] [] (fun u => u = (mwS cB cI cJ cZ h a s'))) (s : RS) (x1 : Int32) (hB : r_expression_23 k12 k23 s x1 = some s') : BlkV l yX11_expression wsX11_expression ({ frames := 3, cells := 0, slots := 0, locals := 61 }) cX11_expression 3 none (dC, dI) (tysA cB cI cJ cZ cS) as 23 (mwS cB cI cJ cZ h a s) [(0, .ref h), (1, .int x1)] [] (fun u => u = (mwS cB cI cJ cZ h a s')) := by
  intro p e s0 m below meth c A E H locs ls hP hD hS hl
  obtain ⟨C, hr, hlocks, hA, hK, hN⟩ := id E
  obtain ⟨hx, hb, hml, hown, hts⟩ := id C
  unfold r_expression_23 at hB
  refine lv_aload_n hx hb dX11_expression_23 rfl (lv_at hl 0 rfl) ?_
  refine lv_bipush (v := 6) hx hb dX11_expression_24 (by decide) ?_
  obtain ⟨q_, s1, hc, hB⟩ := bindI_inv hB
  refine q_goiF (va_runV (As := [.int 6]) (rest := []) C (cr_is hc _) (cwV 1 hts gX11_expression_X11_is rfl rfl rfl (by decide +kernel) ⟨Nat.le_of_ble_eq_true rfl, Nat.le_of_ble_eq_true rfl⟩) (q_preV hK hP (ci := 11) (q0 := 0) rfl rfl rfl (q_preF hN hK hP hD)) rfl rfl hl.1 rfl (lv_room (Nat.le_of_ble_eq_true rfl)) dX11_expression_26 ⟨Nat.le_of_ble_eq_true rfl, Nat.le_of_ble_eq_true rfl⟩) hD hS hA (fun r2 w1 H locs hw hP hD hS => ?_)
  obtain ⟨hq_, hw⟩ := hw; subst hw; subst hq_
  refine lv_if_eq (tgt := 84) hx hb dX11_expression_29 (by decide) (fun c3 => ?_) (fun c3 => ?_)
  · have hB := if_p hB c3
    refine lv_aload_n hx hb dX11_expression_84 rfl (lv_at hl 0 rfl) ?_
    obtain ⟨s4, hc, hB⟩ := bindP_inv hB
    refine q_govF (va_runV (As := []) (rest := []) C (cr_unit hc _) (cwV 0 hts gX11_expression_X11_unit rfl rfl rfl (by decide +kernel) ⟨Nat.le_of_ble_eq_true rfl, Nat.le_of_ble_eq_true rfl⟩) (q_preV hK hP (ci := 11) (q0 := 0) rfl rfl rfl (q_preF hN hK hP hD)) rfl rfl hl.1 rfl (lv_room (Nat.le_of_ble_eq_true rfl)) dX11_expression_85 ⟨Nat.le_of_ble_eq_true rfl, Nat.le_of_ble_eq_true rfl⟩) hD hS hA (fun w1 H locs hw hP hD hS => ?_)
    subst hw
    refine lv_aload_n hx hb dX11_expression_88 rfl (lv_at hl 0 rfl) ?_
    refine q_get (v := .int (s4.v 13)) C inX11_expression_X11 hK hP 0 rfl rfl 13 (by decide) rfl LX11_expression_185 rfl dX11_expression_89 ?_
    refine lv_if_le (tgt := 96) hx hb dX11_expression_92 (by decide) (fun c5 => ?_) (fun c5 => ?_)
    · have hB := if_p hB c5
      exact br_expression_96L (hk12) fu _ _ hB p e s0 m below meth c A E H locs ls hP hD hS (lv_sub hl [0, 1] rfl)
    · have hB := if_n hB c5
      exact q_vret C hr hlocks hK hP hD hS (Nat.le_of_ble_eq_true rfl) (Nat.le_of_ble_eq_true rfl) dX11_expression_95 (by cases hB; rfl)
  · have hB := if_n hB c3
    refine lv_aload_n hx hb dX11_expression_32 rfl (lv_at hl 0 rfl) ?_
    refine q_get (v := .int (s1.v 12)) C inX11_expression_X11 hK hP 0 rfl rfl 12 (by decide) rfl LX11_expression_212 rfl dX11_expression_33 ?_
    refine lv_bipush (v := 6) hx hb dX11_expression_36 (by decide) ?_
    refine lv_icmp_ne (tgt := 46) hx hb dX11_expression_38 (by decide) (fun c6 => ?_) (fun c6 => ?_)
    · have hB := if_n hB c6
      exact br_expression_46 (hk12) (hk23) _ _ hB p e s0 m below meth c A E H locs ls hP hD hS (lv_sub hl [0, 1] rfl)
    · have hB := if_p hB c6
      refine lv_aload_n hx hb dX11_expression_41 rfl (lv_at hl 0 rfl) ?_
      refine lv_iconst (v := 2) hx hb dX11_expression_42 (by decide) ?_
      obtain ⟨s7, hc, hB⟩ := bindP_inv hB
      refine q_govF (va_runV (As := [.int 2]) (rest := []) C (cr_fail hc _) (cwV 1 hts gX11_expression_X11_fail rfl rfl rfl (by decide +kernel) ⟨Nat.le_of_ble_eq_true rfl, Nat.le_of_ble_eq_true rfl⟩) (q_preV hK hP (ci := 11) (q0 := 0) rfl rfl rfl (q_preF hN hK hP hD)) rfl rfl hl.1 rfl (lv_room (Nat.le_of_ble_eq_true rfl)) dX11_expression_43 ⟨Nat.le_of_ble_eq_true rfl, Nat.le_of_ble_eq_true rfl⟩) hD hS hA (fun w1 H locs hw hP hD hS => ?_)
      subst hw
      exact br_expression_46 (hk12) (hk23) _ _ hB p e s0 m below meth c A E H locs ls hP hD hS (lv_sub hl [0, 1] rfl)
theorem br_expression_23L {l : Launch} {dC : Nat → ClassId} {dI : Nat → Nat → Nat} {cB cI cJ cZ cS : ClassId} {h : Nat} {a : Nat → Nat} {as : List Value} {s' : RS} {k12 : RS → Int32 → Int32 → Option RS} (hk12 : ∀ (s : RS) (x1 : Int32) (x2 : Int32), k12 s x1 x2 = some s' → BlkV l yX11_expression wsX11_expression ({ frames := 3, cells := 0, slots := 0, locals := 61 }) cX11_expression 3 none (dC, dI) (tysA cB cI cJ cZ cS) as 12 (mwS cB cI cJ cZ h a s) [(0, .ref h), (1, .int x1), (2, .int x2)] [] (fun u => u = (mwS cB cI cJ cZ h a s'))) : ∀ (n : Nat) (s : RS) (x1 : Int32), r_expression_23L k12 n s x1 = some s' → BlkV l yX11_expression wsX11_expression ({ frames := 3, cells := 0, slots := 0, locals := 61 }) cX11_expression 3 none (dC, dI) (tysA cB cI cJ cZ cS) as 23 (mwS cB cI cJ cZ h a s) [(0, .ref h), (1, .int x1)] [] (fun u => u = (mwS cB cI cJ cZ h a s')) := by
  intro n
  induction n with
  | zero => intro s x1 hB; exact none_ne hB
  | succ n ih => intro s x1 hB; exact br_expression_23 hk12 ih _ _ hB
set_option maxHeartbeats 4000000 in
set_option maxRecDepth 100000 in
theorem br_expression_12 {l : Launch} {dC : Nat → ClassId} {dI : Nat → Nat → Nat} {cB cI cJ cZ cS : ClassId} {h : Nat} {a : Nat → Nat} {as : List Value} {s' : RS} {k12 : RS → Int32 → Int32 → Option RS} (hk12 : ∀ (s : RS) (x1 : Int32) (x2 : Int32), k12 s x1 x2 = some s' → BlkV l yX11_expression wsX11_expression ({ frames := 3, cells := 0, slots := 0, locals := 61 }) cX11_expression 3 none (dC, dI) (tysA cB cI cJ cZ cS) as 12 (mwS cB cI cJ cZ h a s) [(0, .ref h), (1, .int x1), (2, .int x2)] [] (fun u => u = (mwS cB cI cJ cZ h a s'))) (s : RS) (x1 : Int32) (x2 : Int32) (hB : r_expression_12 k12 s x1 x2 = some s') : BlkV l yX11_expression wsX11_expression ({ frames := 3, cells := 0, slots := 0, locals := 61 }) cX11_expression 3 none (dC, dI) (tysA cB cI cJ cZ cS) as 12 (mwS cB cI cJ cZ h a s) [(0, .ref h), (1, .int x1), (2, .int x2)] [] (fun u => u = (mwS cB cI cJ cZ h a s')) := by
  intro p e s0 m below meth c A E H locs ls hP hD hS hl
  obtain ⟨C, hr, hlocks, hA, hK, hN⟩ := id E
  obtain ⟨hx, hb, hml, hown, hts⟩ := id C
  unfold r_expression_12 at hB
  refine lv_iload_n hx hb dX11_expression_12 rfl (lv_at hl 2 rfl) ?_
  refine lv_if_eq (tgt := 272) hx hb dX11_expression_13 (by decide) (fun c1 => ?_) (fun c1 => ?_)
  · have hB := if_p hB c1
    exact q_vret C hr hlocks hK hP hD hS (Nat.le_of_ble_eq_true rfl) (Nat.le_of_ble_eq_true rfl) dX11_expression_272 (by cases hB; rfl)
  · have hB := if_n hB c1
    refine lv_aload_n hx hb dX11_expression_16 rfl (lv_at hl 0 rfl) ?_
    refine q_get (v := .int (s.v 13)) C inX11_expression_X11 hK hP 0 rfl rfl 13 (by decide) rfl LX11_expression_185 rfl dX11_expression_17 ?_
    refine lv_if_ne (tgt := 272) hx hb dX11_expression_20 (by decide) (fun c2 => ?_) (fun c2 => ?_)
    · have hB := if_n hB c2
      exact q_vret C hr hlocks hK hP hD hS (Nat.le_of_ble_eq_true rfl) (Nat.le_of_ble_eq_true rfl) dX11_expression_272 (by cases hB; rfl)
    · have hB := if_p hB c2
      exact br_expression_23L (hk12) fu _ _ hB p e s0 m below meth c A E H locs ls hP hD hS (lv_sub hl [0, 1] rfl)
theorem br_expression_12L {l : Launch} {dC : Nat → ClassId} {dI : Nat → Nat → Nat} {cB cI cJ cZ cS : ClassId} {h : Nat} {a : Nat → Nat} {as : List Value} {s' : RS} : ∀ (n : Nat) (s : RS) (x1 : Int32) (x2 : Int32), r_expression_12L n s x1 x2 = some s' → BlkV l yX11_expression wsX11_expression ({ frames := 3, cells := 0, slots := 0, locals := 61 }) cX11_expression 3 none (dC, dI) (tysA cB cI cJ cZ cS) as 12 (mwS cB cI cJ cZ h a s) [(0, .ref h), (1, .int x1), (2, .int x2)] [] (fun u => u = (mwS cB cI cJ cZ h a s')) := by
  intro n
  induction n with
  | zero => intro s x1 x2 hB; exact none_ne hB
  | succ n ih => intro s x1 x2 hB; exact br_expression_12 ih _ _ _ hB
set_option maxHeartbeats 4000000 in
set_option maxRecDepth 100000 in
theorem br_expression {l : Launch} {dC : Nat → ClassId} {dI : Nat → Nat → Nat} {cB cI cJ cZ cS : ClassId} {h : Nat} {a : Nat → Nat} {as : List Value} {s' : RS} (s : RS) (hB : r_expression s = some s') : BlkV l yX11_expression wsX11_expression ({ frames := 3, cells := 0, slots := 0, locals := 61 }) cX11_expression 3 none (dC, dI) (tysA cB cI cJ cZ cS) as 0 (mwS cB cI cJ cZ h a s) [(0, .ref h)] [] (fun u => u = (mwS cB cI cJ cZ h a s')) := by
  intro p e s0 m below meth c A E H locs ls hP hD hS hl
  obtain ⟨C, hr, hlocks, hA, hK, hN⟩ := id E
  obtain ⟨hx, hb, hml, hown, hts⟩ := id C
  unfold r_expression at hB
  refine lv_aload_n hx hb dX11_expression_0 rfl (lv_at hl 0 rfl) ?_
  refine lv_iconst (v := 0) hx hb dX11_expression_1 (by decide) ?_
  obtain ⟨s1, hs2, hB⟩ := letS_inv hB
  refine q_put (ty := .int) (w2 := (mwS cB cI cJ cZ h a s1)) tyX11 tyX11_ok nmX11 C inX11_expression_X11 hK hP hD hS 0 rfl rfl 39 (by decide) rfl LX11_expression_264 rfl (by decide +kernel) (rfl) rfl (Nat.le_of_ble_eq_true rfl) dX11_expression_2 (mwS_v39 hs2) (fun H locs hP hD hS => ?_)
  refine lv_aload_n hx hb dX11_expression_5 rfl (lv_at hl 0 rfl) ?_
  refine q_get (v := .int (s1.v 12)) C inX11_expression_X11 hK hP 0 rfl rfl 12 (by decide) rfl LX11_expression_212 rfl dX11_expression_6 ?_
  refine lv_istore_n (lv' := [(1, .int (s1.v 12)), (0, .ref h)]) hx hb dX11_expression_9 rfl hl (by decide) rfl (fun ls hl => ?_)
  refine lv_iconst (v := 1) hx hb dX11_expression_10 (by decide) ?_
  refine lv_istore_n (lv' := [(2, .int 1), (1, .int (s1.v 12)), (0, .ref h)]) hx hb dX11_expression_11 rfl hl (by decide) rfl (fun ls hl => ?_)
  exact br_expression_12L fu _ _ _ hB p e s0 m below meth c A E H locs ls hP hD hS (lv_sub hl [2, 1, 0] rfl)
theorem cr_expression {l : Launch} {dC : Nat → ClassId} {dI : Nat → Nat → Nat} {cB cI cJ cZ cS : ClassId} {h : Nat} {a : Nat → Nat} {s' : RS} {s : RS} (hB : r_expression s = some s') : CV l yX11_expression wsX11_expression ({ frames := 3, cells := 0, slots := 0, locals := 61 }) (dC, dI) (tysA cB cI cJ cZ cS) (mwS cB cI cJ cZ h a s) [.ref h] (fun u => u = (mwS cB cI cJ cZ h a s')) :=
  CV_of (cc := cX11_expression) (maxL := 3) (ret := none) (by decide) rfl (Nat.le_of_ble_eq_true rfl) (br_expression _ hB)
end
section
theorem ggX11_tellOne_X11_roomFor : GoodIn wsX11_tellOne wsX11_roomFor := gi_sub (fun w h => List.mem_cons_of_mem _ (List.mem_append_left _ (List.mem_append_right _ (List.mem_append_left _ h)))) gd_wsX11_roomFor
set_option maxRecDepth 20000 in
theorem gX11_tellOne_X11_roomFor : GoodIn wsX11_tellOne (wsV RX11 236 RX11 yX11_roomFor wsX11_roomFor) := goodIn_app (goodIn_r _ [8, 9, 10, 11] (by decide +kernel) (by decide +kernel)) ggX11_tellOne_X11_roomFor
theorem ggX11_tellOne_X11_tellWave : GoodIn wsX11_tellOne wsX11_tellWave := gi_sub (fun w h => List.mem_cons_of_mem _ (List.mem_append_left _ (List.mem_append_right _ (List.mem_append_right _ (List.mem_append_left _ h))))) gd_wsX11_tellWave
set_option maxRecDepth 20000 in
theorem gX11_tellOne_X11_tellWave : GoodIn wsX11_tellOne (wsV RX11 240 RX11 yX11_tellWave wsX11_tellWave) := goodIn_app (goodIn_r _ [18, 19, 20, 11] (by decide +kernel) (by decide +kernel)) ggX11_tellOne_X11_tellWave
theorem ggX11_tellOne_X11_tellParty : GoodIn wsX11_tellOne wsX11_tellParty := gi_sub (fun w h => List.mem_cons_of_mem _ (List.mem_append_left _ (List.mem_append_right _ (List.mem_append_right _ (List.mem_append_right _ (List.mem_append_left _ h)))))) gd_wsX11_tellParty
set_option maxRecDepth 20000 in
theorem gX11_tellOne_X11_tellParty : GoodIn wsX11_tellOne (wsV RX11 243 RX11 yX11_tellParty wsX11_tellParty) := goodIn_app (goodIn_r _ [27, 28, 29, 11] (by decide +kernel) (by decide +kernel)) ggX11_tellOne_X11_tellParty
theorem ggX11_tellOne_X11_goesOn : GoodIn wsX11_tellOne wsX11_goesOn := gi_sub (fun w h => List.mem_cons_of_mem _ (List.mem_append_left _ (List.mem_append_right _ (List.mem_append_right _ (List.mem_append_right _ (List.mem_append_right _ (List.mem_append_left _ h))))))) gd_wsX11_goesOn
set_option maxRecDepth 20000 in
theorem gX11_tellOne_X11_goesOn : GoodIn wsX11_tellOne (wsV RX11 206 RX11 yX11_goesOn wsX11_goesOn) := goodIn_app (goodIn_r _ [15, 16, 17, 11] (by decide +kernel) (by decide +kernel)) ggX11_tellOne_X11_goesOn
theorem ggX11_tellOne_X11_bounded : GoodIn wsX11_tellOne wsX11_bounded := gi_sub (fun w h => List.mem_cons_of_mem _ (List.mem_append_left _ (List.mem_append_right _ (List.mem_append_right _ (List.mem_append_right _ (List.mem_append_right _ (List.mem_append_right _ (List.mem_append_left _ h)))))))) gd_wsX11_bounded
set_option maxRecDepth 20000 in
theorem gX11_tellOne_X11_bounded : GoodIn wsX11_tellOne (wsV RX11 246 RX11 yX11_bounded wsX11_bounded) := goodIn_app (goodIn_r _ [21, 22, 23, 11] (by decide +kernel) (by decide +kernel)) ggX11_tellOne_X11_bounded
theorem ggX11_tellOne_X11_must : GoodIn wsX11_tellOne wsX11_must := gi_sub (fun w h => List.mem_cons_of_mem _ (List.mem_append_left _ (List.mem_append_right _ (List.mem_append_right _ (List.mem_append_right _ (List.mem_append_right _ (List.mem_append_right _ (List.mem_append_right _ (List.mem_append_left _ h))))))))) gd_wsX11_must
set_option maxRecDepth 20000 in
theorem gX11_tellOne_X11_must : GoodIn wsX11_tellOne (wsV RX11 249 RX11 yX11_must wsX11_must) := goodIn_app (goodIn_r _ [24, 25, 26, 11] (by decide +kernel) (by decide +kernel)) ggX11_tellOne_X11_must
theorem ggX11_tellOne_X11_fail : GoodIn wsX11_tellOne wsX11_fail := gi_sub (fun w h => List.mem_cons_of_mem _ (List.mem_append_left _ (List.mem_append_right _ (List.mem_append_right _ (List.mem_append_right _ (List.mem_append_right _ (List.mem_append_right _ (List.mem_append_right _ (List.mem_append_right _ (List.mem_append_left _ h)))))))))) gd_wsX11_fail
set_option maxRecDepth 20000 in
theorem gX11_tellOne_X11_fail : GoodIn wsX11_tellOne (wsV RX11 200 RX11 yX11_fail wsX11_fail) := goodIn_app (goodIn_r _ [12, 13, 14, 11] (by decide +kernel) (by decide +kernel)) ggX11_tellOne_X11_fail
theorem ggX11_tellOne_X11_tellLaw : GoodIn wsX11_tellOne wsX11_tellLaw := gi_sub (fun w h => List.mem_cons_of_mem _ (List.mem_append_left _ (List.mem_append_right _ (List.mem_append_right _ (List.mem_append_right _ (List.mem_append_right _ (List.mem_append_right _ (List.mem_append_right _ (List.mem_append_right _ (List.mem_append_right _ h)))))))))) gd_wsX11_tellLaw
set_option maxRecDepth 20000 in
theorem gX11_tellOne_X11_tellLaw : GoodIn wsX11_tellOne (wsV RX11 252 RX11 yX11_tellLaw wsX11_tellLaw) := goodIn_app (goodIn_r _ [30, 31, 32, 11] (by decide +kernel) (by decide +kernel)) ggX11_tellOne_X11_tellLaw
theorem dX11_tellOne_0 : decode cX11_tellOne 0 = .ok (.aload_n 0, 1) := dc1_42 (by decide +kernel)
theorem dX11_tellOne_1 : decode cX11_tellOne 1 = .ok (.getfield 20, 3) := dcw_180 (by decide +kernel)
theorem dX11_tellOne_4 : decode cX11_tellOne 4 = .ok (.aload_n 0, 1) := dc1_42 (by decide +kernel)
theorem dX11_tellOne_5 : decode cX11_tellOne 5 = .ok (.getfield 188, 3) := dcw_180 (by decide +kernel)
theorem dX11_tellOne_8 : decode cX11_tellOne 8 = .ok (.iaload, 1) := dc1_46 (by decide +kernel)
theorem dX11_tellOne_9 : decode cX11_tellOne 9 = .ok (.lookupswitch 120 #[(20, 35), (21, 63), (26, 92)], 35) := by decide +kernel
theorem dX11_tellOne_44 : decode cX11_tellOne 44 = .ok (.aload_n 0, 1) := dc1_42 (by decide +kernel)
theorem dX11_tellOne_45 : decode cX11_tellOne 45 = .ok (.aload_n 0, 1) := dc1_42 (by decide +kernel)
theorem dX11_tellOne_46 : decode cX11_tellOne 46 = .ok (.getfield 40, 3) := dcw_180 (by decide +kernel)
theorem dX11_tellOne_49 : decode cX11_tellOne 49 = .ok (.aload_n 0, 1) := dc1_42 (by decide +kernel)
theorem dX11_tellOne_50 : decode cX11_tellOne 50 = .ok (.getfield 218, 3) := dcw_180 (by decide +kernel)
theorem dX11_tellOne_53 : decode cX11_tellOne 53 = .ok (.iaload, 1) := dc1_46 (by decide +kernel)
theorem dX11_tellOne_54 : decode cX11_tellOne 54 = .ok (.iconst 5, 1) := dc1_8 (by decide +kernel)
theorem dX11_tellOne_55 : decode cX11_tellOne 55 = .ok (.invokevirtual 236, 3) := dcw_182 (by decide +kernel)
theorem dX11_tellOne_58 : decode cX11_tellOne 58 = .ok (.aload_n 0, 1) := dc1_42 (by decide +kernel)
theorem dX11_tellOne_59 : decode cX11_tellOne 59 = .ok (.getfield 185, 3) := dcw_180 (by decide +kernel)
theorem dX11_tellOne_62 : decode cX11_tellOne 62 = .ok (.ifCond .ne 120, 3) := dcs_154 (n := 120) (by decide +kernel)
theorem dX11_tellOne_65 : decode cX11_tellOne 65 = .ok (.aload_n 0, 1) := dc1_42 (by decide +kernel)
theorem dX11_tellOne_66 : decode cX11_tellOne 66 = .ok (.invokevirtual 240, 3) := dcw_182 (by decide +kernel)
theorem dX11_tellOne_69 : decode cX11_tellOne 69 = .ok (.goto 113, 3) := dcs_167 (n := 113) (by decide +kernel)
theorem dX11_tellOne_72 : decode cX11_tellOne 72 = .ok (.aload_n 0, 1) := dc1_42 (by decide +kernel)
theorem dX11_tellOne_73 : decode cX11_tellOne 73 = .ok (.aload_n 0, 1) := dc1_42 (by decide +kernel)
theorem dX11_tellOne_74 : decode cX11_tellOne 74 = .ok (.getfield 49, 3) := dcw_180 (by decide +kernel)
theorem dX11_tellOne_77 : decode cX11_tellOne 77 = .ok (.aload_n 0, 1) := dc1_42 (by decide +kernel)
theorem dX11_tellOne_78 : decode cX11_tellOne 78 = .ok (.getfield 218, 3) := dcw_180 (by decide +kernel)
theorem dX11_tellOne_81 : decode cX11_tellOne 81 = .ok (.iaload, 1) := dc1_46 (by decide +kernel)
theorem dX11_tellOne_82 : decode cX11_tellOne 82 = .ok (.bipush 6, 2) := dcb_16 (n := 6) (by decide +kernel)
theorem dX11_tellOne_84 : decode cX11_tellOne 84 = .ok (.invokevirtual 236, 3) := dcw_182 (by decide +kernel)
theorem dX11_tellOne_87 : decode cX11_tellOne 87 = .ok (.aload_n 0, 1) := dc1_42 (by decide +kernel)
theorem dX11_tellOne_88 : decode cX11_tellOne 88 = .ok (.getfield 185, 3) := dcw_180 (by decide +kernel)
theorem dX11_tellOne_91 : decode cX11_tellOne 91 = .ok (.ifCond .ne 91, 3) := dcs_154 (n := 91) (by decide +kernel)
theorem dX11_tellOne_94 : decode cX11_tellOne 94 = .ok (.aload_n 0, 1) := dc1_42 (by decide +kernel)
theorem dX11_tellOne_95 : decode cX11_tellOne 95 = .ok (.invokevirtual 243, 3) := dcw_182 (by decide +kernel)
theorem dX11_tellOne_98 : decode cX11_tellOne 98 = .ok (.goto 84, 3) := dcs_167 (n := 84) (by decide +kernel)
theorem dX11_tellOne_101 : decode cX11_tellOne 101 = .ok (.aload_n 0, 1) := dc1_42 (by decide +kernel)
theorem dX11_tellOne_102 : decode cX11_tellOne 102 = .ok (.invokevirtual 206, 3) := dcw_182 (by decide +kernel)
theorem dX11_tellOne_105 : decode cX11_tellOne 105 = .ok (.aload_n 0, 1) := dc1_42 (by decide +kernel)
theorem dX11_tellOne_106 : decode cX11_tellOne 106 = .ok (.getfield 58, 3) := dcw_180 (by decide +kernel)
theorem dX11_tellOne_109 : decode cX11_tellOne 109 = .ok (.aload_n 0, 1) := dc1_42 (by decide +kernel)
theorem dX11_tellOne_110 : decode cX11_tellOne 110 = .ok (.getfield 218, 3) := dcw_180 (by decide +kernel)
theorem dX11_tellOne_113 : decode cX11_tellOne 113 = .ok (.aload_n 0, 1) := dc1_42 (by decide +kernel)
theorem dX11_tellOne_114 : decode cX11_tellOne 114 = .ok (.sipush 9999, 3) := dcs_17 (n := 9999) (by decide +kernel)
theorem dX11_tellOne_117 : decode cX11_tellOne 117 = .ok (.invokevirtual 246, 3) := dcw_182 (by decide +kernel)
theorem dX11_tellOne_120 : decode cX11_tellOne 120 = .ok (.iastore, 1) := dc1_79 (by decide +kernel)
theorem dX11_tellOne_121 : decode cX11_tellOne 121 = .ok (.aload_n 0, 1) := dc1_42 (by decide +kernel)
theorem dX11_tellOne_122 : decode cX11_tellOne 122 = .ok (.iconst 4, 1) := dc1_7 (by decide +kernel)
theorem dX11_tellOne_123 : decode cX11_tellOne 123 = .ok (.invokevirtual 249, 3) := dcw_182 (by decide +kernel)
theorem dX11_tellOne_126 : decode cX11_tellOne 126 = .ok (.goto 56, 3) := dcs_167 (n := 56) (by decide +kernel)
theorem dX11_tellOne_129 : decode cX11_tellOne 129 = .ok (.aload_n 0, 1) := dc1_42 (by decide +kernel)
theorem dX11_tellOne_130 : decode cX11_tellOne 130 = .ok (.getfield 20, 3) := dcw_180 (by decide +kernel)
theorem dX11_tellOne_133 : decode cX11_tellOne 133 = .ok (.aload_n 0, 1) := dc1_42 (by decide +kernel)
theorem dX11_tellOne_134 : decode cX11_tellOne 134 = .ok (.getfield 188, 3) := dcw_180 (by decide +kernel)
theorem dX11_tellOne_137 : decode cX11_tellOne 137 = .ok (.iaload, 1) := dc1_46 (by decide +kernel)
theorem dX11_tellOne_138 : decode cX11_tellOne 138 = .ok (.bipush 22, 2) := dcb_16 (n := 22) (by decide +kernel)
theorem dX11_tellOne_140 : decode cX11_tellOne 140 = .ok (.isub, 1) := dc1_100 (by decide +kernel)
theorem dX11_tellOne_141 : decode cX11_tellOne 141 = .ok (.istore_n 1, 1) := dc1_60 (by decide +kernel)
theorem dX11_tellOne_142 : decode cX11_tellOne 142 = .ok (.iload_n 1, 1) := dc1_27 (by decide +kernel)
theorem dX11_tellOne_143 : decode cX11_tellOne 143 = .ok (.ifCond .lt 17, 3) := dcs_155 (n := 17) (by decide +kernel)
theorem dX11_tellOne_146 : decode cX11_tellOne 146 = .ok (.aload_n 0, 1) := dc1_42 (by decide +kernel)
theorem dX11_tellOne_147 : decode cX11_tellOne 147 = .ok (.getfield 20, 3) := dcw_180 (by decide +kernel)
theorem dX11_tellOne_150 : decode cX11_tellOne 150 = .ok (.aload_n 0, 1) := dc1_42 (by decide +kernel)
theorem dX11_tellOne_151 : decode cX11_tellOne 151 = .ok (.getfield 188, 3) := dcw_180 (by decide +kernel)
theorem dX11_tellOne_154 : decode cX11_tellOne 154 = .ok (.iaload, 1) := dc1_46 (by decide +kernel)
theorem dX11_tellOne_155 : decode cX11_tellOne 155 = .ok (.bipush 25, 2) := dcb_16 (n := 25) (by decide +kernel)
theorem dX11_tellOne_157 : decode cX11_tellOne 157 = .ok (.if_icmp .le 8, 3) := dcs_164 (n := 8) (by decide +kernel)
theorem dX11_tellOne_160 : decode cX11_tellOne 160 = .ok (.aload_n 0, 1) := dc1_42 (by decide +kernel)
theorem dX11_tellOne_161 : decode cX11_tellOne 161 = .ok (.iconst 1, 1) := dc1_4 (by decide +kernel)
theorem dX11_tellOne_162 : decode cX11_tellOne 162 = .ok (.invokevirtual 200, 3) := dcw_182 (by decide +kernel)
theorem dX11_tellOne_165 : decode cX11_tellOne 165 = .ok (.aload_n 0, 1) := dc1_42 (by decide +kernel)
theorem dX11_tellOne_166 : decode cX11_tellOne 166 = .ok (.getfield 185, 3) := dcw_180 (by decide +kernel)
theorem dX11_tellOne_169 : decode cX11_tellOne 169 = .ok (.ifCond .le 4, 3) := dcs_158 (n := 4) (by decide +kernel)
theorem dX11_tellOne_172 : decode cX11_tellOne 172 = .ok (.return_, 1) := dc1_177 (by decide +kernel)
theorem dX11_tellOne_173 : decode cX11_tellOne 173 = .ok (.aload_n 0, 1) := dc1_42 (by decide +kernel)
theorem dX11_tellOne_174 : decode cX11_tellOne 174 = .ok (.invokevirtual 206, 3) := dcw_182 (by decide +kernel)
theorem dX11_tellOne_177 : decode cX11_tellOne 177 = .ok (.aload_n 0, 1) := dc1_42 (by decide +kernel)
theorem dX11_tellOne_178 : decode cX11_tellOne 178 = .ok (.iload_n 1, 1) := dc1_27 (by decide +kernel)
theorem dX11_tellOne_179 : decode cX11_tellOne 179 = .ok (.invokevirtual 252, 3) := dcw_182 (by decide +kernel)
theorem dX11_tellOne_182 : decode cX11_tellOne 182 = .ok (.return_, 1) := dc1_177 (by decide +kernel)
theorem ggX11_tellLaw_X11_must : GoodIn wsX11_tellLaw wsX11_must := gi_sub (fun w h => List.mem_cons_of_mem _ (List.mem_append_left _ (List.mem_append_right _ (List.mem_append_left _ h)))) gd_wsX11_must
set_option maxRecDepth 20000 in
theorem gX11_tellLaw_X11_must : GoodIn wsX11_tellLaw (wsV RX11 249 RX11 yX11_must wsX11_must) := goodIn_app (goodIn_r _ [10, 11, 12, 13] (by decide +kernel) (by decide +kernel)) ggX11_tellLaw_X11_must
theorem ggX11_tellLaw_X11_is : GoodIn wsX11_tellLaw wsX11_is := gi_sub (fun w h => List.mem_cons_of_mem _ (List.mem_append_left _ (List.mem_append_right _ (List.mem_append_right _ (List.mem_append_left _ h))))) gd_wsX11_is
set_option maxRecDepth 20000 in
theorem gX11_tellLaw_X11_is : GoodIn wsX11_tellLaw (wsV RX11 203 RX11 yX11_is wsX11_is) := goodIn_app (goodIn_r _ [14, 15, 16, 13] (by decide +kernel) (by decide +kernel)) ggX11_tellLaw_X11_is
theorem ggX11_tellLaw_X11_fail : GoodIn wsX11_tellLaw wsX11_fail := gi_sub (fun w h => List.mem_cons_of_mem _ (List.mem_append_left _ (List.mem_append_right _ (List.mem_append_right _ (List.mem_append_right _ (List.mem_append_left _ h)))))) gd_wsX11_fail
set_option maxRecDepth 20000 in
theorem gX11_tellLaw_X11_fail : GoodIn wsX11_tellLaw (wsV RX11 200 RX11 yX11_fail wsX11_fail) := goodIn_app (goodIn_r _ [20, 21, 22, 13] (by decide +kernel) (by decide +kernel)) ggX11_tellLaw_X11_fail
theorem ggX11_tellLaw_X11_goesOn : GoodIn wsX11_tellLaw wsX11_goesOn := gi_sub (fun w h => List.mem_cons_of_mem _ (List.mem_append_left _ (List.mem_append_right _ (List.mem_append_right _ (List.mem_append_right _ (List.mem_append_right _ (List.mem_append_left _ h))))))) gd_wsX11_goesOn
set_option maxRecDepth 20000 in
theorem gX11_tellLaw_X11_goesOn : GoodIn wsX11_tellLaw (wsV RX11 206 RX11 yX11_goesOn wsX11_goesOn) := goodIn_app (goodIn_r _ [17, 18, 19, 13] (by decide +kernel) (by decide +kernel)) ggX11_tellLaw_X11_goesOn
theorem ggX11_tellLaw_X11_expression : GoodIn wsX11_tellLaw wsX11_expression := gi_sub (fun w h => List.mem_cons_of_mem _ (List.mem_append_left _ (List.mem_append_right _ (List.mem_append_right _ (List.mem_append_right _ (List.mem_append_right _ (List.mem_append_right _ (List.mem_append_left _ h)))))))) gd_wsX11_expression
set_option maxRecDepth 20000 in
theorem gX11_tellLaw_X11_expression : GoodIn wsX11_tellLaw (wsV RX11 258 RX11 yX11_expression wsX11_expression) := goodIn_app (goodIn_r _ [23, 24, 25, 13] (by decide +kernel) (by decide +kernel)) ggX11_tellLaw_X11_expression
theorem ggX11_tellLaw_X11_term : GoodIn wsX11_tellLaw wsX11_term := gi_sub (fun w h => List.mem_cons_of_mem _ (List.mem_append_left _ (List.mem_append_right _ (List.mem_append_right _ (List.mem_append_right _ (List.mem_append_right _ (List.mem_append_right _ (List.mem_append_right _ h)))))))) gd_wsX11_term
set_option maxRecDepth 20000 in
theorem gX11_tellLaw_X11_term : GoodIn wsX11_tellLaw (wsV RX11 261 RX11 yX11_term wsX11_term) := goodIn_app (goodIn_r _ [26, 27, 28, 13] (by decide +kernel) (by decide +kernel)) ggX11_tellLaw_X11_term
theorem dX11_tellLaw_0 : decode cX11_tellLaw 0 = .ok (.aload_n 0, 1) := dc1_42 (by decide +kernel)
theorem dX11_tellLaw_1 : decode cX11_tellLaw 1 = .ok (.iconst 5, 1) := dc1_8 (by decide +kernel)
theorem dX11_tellLaw_2 : decode cX11_tellLaw 2 = .ok (.invokevirtual 249, 3) := dcw_182 (by decide +kernel)
theorem dX11_tellLaw_5 : decode cX11_tellLaw 5 = .ok (.aload_n 0, 1) := dc1_42 (by decide +kernel)
theorem dX11_tellLaw_6 : decode cX11_tellLaw 6 = .ok (.getfield 221, 3) := dcw_180 (by decide +kernel)
theorem dX11_tellLaw_9 : decode cX11_tellLaw 9 = .ok (.istore_n 2, 1) := dc1_61 (by decide +kernel)
theorem dX11_tellLaw_10 : decode cX11_tellLaw 10 = .ok (.iconst 0, 1) := dc1_3 (by decide +kernel)
theorem dX11_tellLaw_11 : decode cX11_tellLaw 11 = .ok (.istore_n 3, 1) := dc1_62 (by decide +kernel)
theorem dX11_tellLaw_12 : decode cX11_tellLaw 12 = .ok (.aload_n 0, 1) := dc1_42 (by decide +kernel)
theorem dX11_tellLaw_13 : decode cX11_tellLaw 13 = .ok (.getfield 185, 3) := dcw_180 (by decide +kernel)
theorem dX11_tellLaw_16 : decode cX11_tellLaw 16 = .ok (.ifCond .ne 113, 3) := dcs_154 (n := 113) (by decide +kernel)
theorem dX11_tellLaw_19 : decode cX11_tellLaw 19 = .ok (.aload_n 0, 1) := dc1_42 (by decide +kernel)
theorem dX11_tellLaw_20 : decode cX11_tellLaw 20 = .ok (.bipush 27, 2) := dcb_16 (n := 27) (by decide +kernel)
theorem dX11_tellLaw_22 : decode cX11_tellLaw 22 = .ok (.invokevirtual 203, 3) := dcw_182 (by decide +kernel)
theorem dX11_tellLaw_25 : decode cX11_tellLaw 25 = .ok (.ifCond .eq 104, 3) := dcs_153 (n := 104) (by decide +kernel)
theorem dX11_tellLaw_28 : decode cX11_tellLaw 28 = .ok (.iload_n 3, 1) := dc1_29 (by decide +kernel)
theorem dX11_tellLaw_29 : decode cX11_tellLaw 29 = .ok (.iconst 4, 1) := dc1_7 (by decide +kernel)
theorem dX11_tellLaw_30 : decode cX11_tellLaw 30 = .ok (.if_icmp .ne 8, 3) := dcs_160 (n := 8) (by decide +kernel)
theorem dX11_tellLaw_33 : decode cX11_tellLaw 33 = .ok (.aload_n 0, 1) := dc1_42 (by decide +kernel)
theorem dX11_tellLaw_34 : decode cX11_tellLaw 34 = .ok (.iconst 2, 1) := dc1_5 (by decide +kernel)
theorem dX11_tellLaw_35 : decode cX11_tellLaw 35 = .ok (.invokevirtual 200, 3) := dcw_182 (by decide +kernel)
theorem dX11_tellLaw_38 : decode cX11_tellLaw 38 = .ok (.aload_n 0, 1) := dc1_42 (by decide +kernel)
theorem dX11_tellLaw_39 : decode cX11_tellLaw 39 = .ok (.getfield 185, 3) := dcw_180 (by decide +kernel)
theorem dX11_tellLaw_42 : decode cX11_tellLaw 42 = .ok (.ifCond .le 4, 3) := dcs_158 (n := 4) (by decide +kernel)
theorem dX11_tellLaw_45 : decode cX11_tellLaw 45 = .ok (.return_, 1) := dc1_177 (by decide +kernel)
theorem dX11_tellLaw_46 : decode cX11_tellLaw 46 = .ok (.iinc 3 1, 3) := dc_iinc (m := 1) (by decide +kernel)
theorem dX11_tellLaw_49 : decode cX11_tellLaw 49 = .ok (.aload_n 0, 1) := dc1_42 (by decide +kernel)
theorem dX11_tellLaw_50 : decode cX11_tellLaw 50 = .ok (.invokevirtual 206, 3) := dcw_182 (by decide +kernel)
theorem dX11_tellLaw_53 : decode cX11_tellLaw 53 = .ok (.aload_n 0, 1) := dc1_42 (by decide +kernel)
theorem dX11_tellLaw_54 : decode cX11_tellLaw 54 = .ok (.getfield 67, 3) := dcw_180 (by decide +kernel)
theorem dX11_tellLaw_57 : decode cX11_tellLaw 57 = .ok (.aload_n 0, 1) := dc1_42 (by decide +kernel)
theorem dX11_tellLaw_58 : decode cX11_tellLaw 58 = .ok (.getfield 221, 3) := dcw_180 (by decide +kernel)
theorem dX11_tellLaw_61 : decode cX11_tellLaw 61 = .ok (.iconst 1, 1) := dc1_4 (by decide +kernel)
theorem dX11_tellLaw_62 : decode cX11_tellLaw 62 = .ok (.bastore, 1) := dc1_84 (by decide +kernel)
theorem dX11_tellLaw_63 : decode cX11_tellLaw 63 = .ok (.aload_n 0, 1) := dc1_42 (by decide +kernel)
theorem dX11_tellLaw_64 : decode cX11_tellLaw 64 = .ok (.getfield 71, 3) := dcw_180 (by decide +kernel)
theorem dX11_tellLaw_67 : decode cX11_tellLaw 67 = .ok (.aload_n 0, 1) := dc1_42 (by decide +kernel)
theorem dX11_tellLaw_68 : decode cX11_tellLaw 68 = .ok (.getfield 221, 3) := dcw_180 (by decide +kernel)
theorem dX11_tellLaw_71 : decode cX11_tellLaw 71 = .ok (.aload_n 0, 1) := dc1_42 (by decide +kernel)
theorem dX11_tellLaw_72 : decode cX11_tellLaw 72 = .ok (.getfield 224, 3) := dcw_180 (by decide +kernel)
theorem dX11_tellLaw_75 : decode cX11_tellLaw 75 = .ok (.iastore, 1) := dc1_79 (by decide +kernel)
theorem dX11_tellLaw_76 : decode cX11_tellLaw 76 = .ok (.aload_n 0, 1) := dc1_42 (by decide +kernel)
theorem dX11_tellLaw_77 : decode cX11_tellLaw 77 = .ok (.invokevirtual 258, 3) := dcw_182 (by decide +kernel)
theorem dX11_tellLaw_80 : decode cX11_tellLaw 80 = .ok (.aload_n 0, 1) := dc1_42 (by decide +kernel)
theorem dX11_tellLaw_81 : decode cX11_tellLaw 81 = .ok (.bipush 13, 2) := dcb_16 (n := 13) (by decide +kernel)
theorem dX11_tellLaw_83 : decode cX11_tellLaw 83 = .ok (.invokevirtual 249, 3) := dcw_182 (by decide +kernel)
theorem dX11_tellLaw_86 : decode cX11_tellLaw 86 = .ok (.aload_n 0, 1) := dc1_42 (by decide +kernel)
theorem dX11_tellLaw_87 : decode cX11_tellLaw 87 = .ok (.getfield 74, 3) := dcw_180 (by decide +kernel)
theorem dX11_tellLaw_90 : decode cX11_tellLaw 90 = .ok (.aload_n 0, 1) := dc1_42 (by decide +kernel)
theorem dX11_tellLaw_91 : decode cX11_tellLaw 91 = .ok (.getfield 221, 3) := dcw_180 (by decide +kernel)
theorem dX11_tellLaw_94 : decode cX11_tellLaw 94 = .ok (.aload_n 0, 1) := dc1_42 (by decide +kernel)
theorem dX11_tellLaw_95 : decode cX11_tellLaw 95 = .ok (.getfield 224, 3) := dcw_180 (by decide +kernel)
theorem dX11_tellLaw_98 : decode cX11_tellLaw 98 = .ok (.iastore, 1) := dc1_79 (by decide +kernel)
theorem dX11_tellLaw_99 : decode cX11_tellLaw 99 = .ok (.aload_n 0, 1) := dc1_42 (by decide +kernel)
theorem dX11_tellLaw_100 : decode cX11_tellLaw 100 = .ok (.getfield 185, 3) := dcw_180 (by decide +kernel)
theorem dX11_tellLaw_103 : decode cX11_tellLaw 103 = .ok (.ifCond .ne 7, 3) := dcs_154 (n := 7) (by decide +kernel)
theorem dX11_tellLaw_106 : decode cX11_tellLaw 106 = .ok (.aload_n 0, 1) := dc1_42 (by decide +kernel)
theorem dX11_tellLaw_107 : decode cX11_tellLaw 107 = .ok (.invokevirtual 258, 3) := dcw_182 (by decide +kernel)
theorem dX11_tellLaw_110 : decode cX11_tellLaw 110 = .ok (.aload_n 0, 1) := dc1_42 (by decide +kernel)
theorem dX11_tellLaw_111 : decode cX11_tellLaw 111 = .ok (.bipush 28, 2) := dcb_16 (n := 28) (by decide +kernel)
theorem dX11_tellLaw_113 : decode cX11_tellLaw 113 = .ok (.invokevirtual 249, 3) := dcw_182 (by decide +kernel)
theorem dX11_tellLaw_116 : decode cX11_tellLaw 116 = .ok (.aload_n 0, 1) := dc1_42 (by decide +kernel)
theorem dX11_tellLaw_117 : decode cX11_tellLaw 117 = .ok (.invokevirtual 261, 3) := dcw_182 (by decide +kernel)
theorem dX11_tellLaw_120 : decode cX11_tellLaw 120 = .ok (.aload_n 0, 1) := dc1_42 (by decide +kernel)
theorem dX11_tellLaw_121 : decode cX11_tellLaw 121 = .ok (.bipush 29, 2) := dcb_16 (n := 29) (by decide +kernel)
theorem dX11_tellLaw_123 : decode cX11_tellLaw 123 = .ok (.invokevirtual 249, 3) := dcw_182 (by decide +kernel)
theorem dX11_tellLaw_126 : decode cX11_tellLaw 126 = .ok (.goto (-114), 3) := dcs_167 (n := 65422) (by decide +kernel)
theorem dX11_tellLaw_129 : decode cX11_tellLaw 129 = .ok (.aload_n 0, 1) := dc1_42 (by decide +kernel)
theorem dX11_tellLaw_130 : decode cX11_tellLaw 130 = .ok (.getfield 67, 3) := dcw_180 (by decide +kernel)
theorem dX11_tellLaw_133 : decode cX11_tellLaw 133 = .ok (.aload_n 0, 1) := dc1_42 (by decide +kernel)
theorem dX11_tellLaw_134 : decode cX11_tellLaw 134 = .ok (.getfield 221, 3) := dcw_180 (by decide +kernel)
theorem dX11_tellLaw_137 : decode cX11_tellLaw 137 = .ok (.iconst 0, 1) := dc1_3 (by decide +kernel)
theorem dX11_tellLaw_138 : decode cX11_tellLaw 138 = .ok (.bastore, 1) := dc1_84 (by decide +kernel)
theorem dX11_tellLaw_139 : decode cX11_tellLaw 139 = .ok (.aload_n 0, 1) := dc1_42 (by decide +kernel)
theorem dX11_tellLaw_140 : decode cX11_tellLaw 140 = .ok (.invokevirtual 261, 3) := dcw_182 (by decide +kernel)
theorem dX11_tellLaw_143 : decode cX11_tellLaw 143 = .ok (.aload_n 0, 1) := dc1_42 (by decide +kernel)
theorem dX11_tellLaw_144 : decode cX11_tellLaw 144 = .ok (.iconst 4, 1) := dc1_7 (by decide +kernel)
theorem dX11_tellLaw_145 : decode cX11_tellLaw 145 = .ok (.invokevirtual 249, 3) := dcw_182 (by decide +kernel)
theorem dX11_tellLaw_148 : decode cX11_tellLaw 148 = .ok (.aload_n 0, 1) := dc1_42 (by decide +kernel)
theorem dX11_tellLaw_149 : decode cX11_tellLaw 149 = .ok (.getfield 185, 3) := dcw_180 (by decide +kernel)
theorem dX11_tellLaw_152 : decode cX11_tellLaw 152 = .ok (.ifCond .le 4, 3) := dcs_158 (n := 4) (by decide +kernel)
theorem dX11_tellLaw_155 : decode cX11_tellLaw 155 = .ok (.return_, 1) := dc1_177 (by decide +kernel)
theorem dX11_tellLaw_156 : decode cX11_tellLaw 156 = .ok (.aload_n 0, 1) := dc1_42 (by decide +kernel)
theorem dX11_tellLaw_157 : decode cX11_tellLaw 157 = .ok (.getfield 61, 3) := dcw_180 (by decide +kernel)
theorem dX11_tellLaw_160 : decode cX11_tellLaw 160 = .ok (.iconst 4, 1) := dc1_7 (by decide +kernel)
theorem dX11_tellLaw_161 : decode cX11_tellLaw 161 = .ok (.aload_n 0, 1) := dc1_42 (by decide +kernel)
theorem dX11_tellLaw_162 : decode cX11_tellLaw 162 = .ok (.getfield 218, 3) := dcw_180 (by decide +kernel)
theorem dX11_tellLaw_165 : decode cX11_tellLaw 165 = .ok (.imul, 1) := dc1_104 (by decide +kernel)
theorem dX11_tellLaw_166 : decode cX11_tellLaw 166 = .ok (.iload_n 1, 1) := dc1_27 (by decide +kernel)
theorem dX11_tellLaw_167 : decode cX11_tellLaw 167 = .ok (.iadd, 1) := dc1_96 (by decide +kernel)
theorem dX11_tellLaw_168 : decode cX11_tellLaw 168 = .ok (.iload_n 2, 1) := dc1_28 (by decide +kernel)
theorem dX11_tellLaw_169 : decode cX11_tellLaw 169 = .ok (.iastore, 1) := dc1_79 (by decide +kernel)
theorem dX11_tellLaw_170 : decode cX11_tellLaw 170 = .ok (.aload_n 0, 1) := dc1_42 (by decide +kernel)
theorem dX11_tellLaw_171 : decode cX11_tellLaw 171 = .ok (.getfield 64, 3) := dcw_180 (by decide +kernel)
theorem dX11_tellLaw_174 : decode cX11_tellLaw 174 = .ok (.iconst 4, 1) := dc1_7 (by decide +kernel)
theorem dX11_tellLaw_175 : decode cX11_tellLaw 175 = .ok (.aload_n 0, 1) := dc1_42 (by decide +kernel)
theorem dX11_tellLaw_176 : decode cX11_tellLaw 176 = .ok (.getfield 218, 3) := dcw_180 (by decide +kernel)
theorem dX11_tellLaw_179 : decode cX11_tellLaw 179 = .ok (.imul, 1) := dc1_104 (by decide +kernel)
theorem dX11_tellLaw_180 : decode cX11_tellLaw 180 = .ok (.iload_n 1, 1) := dc1_27 (by decide +kernel)
theorem dX11_tellLaw_181 : decode cX11_tellLaw 181 = .ok (.iadd, 1) := dc1_96 (by decide +kernel)
theorem dX11_tellLaw_182 : decode cX11_tellLaw 182 = .ok (.aload_n 0, 1) := dc1_42 (by decide +kernel)
theorem dX11_tellLaw_183 : decode cX11_tellLaw 183 = .ok (.getfield 221, 3) := dcw_180 (by decide +kernel)
theorem dX11_tellLaw_186 : decode cX11_tellLaw 186 = .ok (.iastore, 1) := dc1_79 (by decide +kernel)
theorem dX11_tellLaw_187 : decode cX11_tellLaw 187 = .ok (.return_, 1) := dc1_177 (by decide +kernel)
theorem ggX11_term_X11_expression : GoodIn wsX11_term wsX11_expression := gi_sub (fun w h => List.mem_cons_of_mem _ (List.mem_append_left _ (List.mem_append_right _ h))) gd_wsX11_expression
set_option maxRecDepth 20000 in
theorem gX11_term_X11_expression : GoodIn wsX11_term (wsV RX11 258 RX11 yX11_expression wsX11_expression) := goodIn_app (goodIn_r _ [6, 7, 8, 9] (by decide +kernel) (by decide +kernel)) ggX11_term_X11_expression
theorem dX11_term_0 : decode cX11_term 0 = .ok (.aload_n 0, 1) := dc1_42 (by decide +kernel)
theorem dX11_term_1 : decode cX11_term 1 = .ok (.getfield 77, 3) := dcw_180 (by decide +kernel)
theorem dX11_term_4 : decode cX11_term 4 = .ok (.aload_n 0, 1) := dc1_42 (by decide +kernel)
theorem dX11_term_5 : decode cX11_term 5 = .ok (.getfield 221, 3) := dcw_180 (by decide +kernel)
theorem dX11_term_8 : decode cX11_term 8 = .ok (.aload_n 0, 1) := dc1_42 (by decide +kernel)
theorem dX11_term_9 : decode cX11_term 9 = .ok (.getfield 224, 3) := dcw_180 (by decide +kernel)
theorem dX11_term_12 : decode cX11_term 12 = .ok (.iastore, 1) := dc1_79 (by decide +kernel)
theorem dX11_term_13 : decode cX11_term 13 = .ok (.aload_n 0, 1) := dc1_42 (by decide +kernel)
theorem dX11_term_14 : decode cX11_term 14 = .ok (.getfield 185, 3) := dcw_180 (by decide +kernel)
theorem dX11_term_17 : decode cX11_term 17 = .ok (.ifCond .ne 7, 3) := dcs_154 (n := 7) (by decide +kernel)
theorem dX11_term_20 : decode cX11_term 20 = .ok (.aload_n 0, 1) := dc1_42 (by decide +kernel)
theorem dX11_term_21 : decode cX11_term 21 = .ok (.invokevirtual 258, 3) := dcw_182 (by decide +kernel)
theorem dX11_term_24 : decode cX11_term 24 = .ok (.aload_n 0, 1) := dc1_42 (by decide +kernel)
theorem dX11_term_25 : decode cX11_term 25 = .ok (.getfield 80, 3) := dcw_180 (by decide +kernel)
theorem dX11_term_28 : decode cX11_term 28 = .ok (.aload_n 0, 1) := dc1_42 (by decide +kernel)
theorem dX11_term_29 : decode cX11_term 29 = .ok (.getfield 221, 3) := dcw_180 (by decide +kernel)
theorem dX11_term_32 : decode cX11_term 32 = .ok (.aload_n 0, 1) := dc1_42 (by decide +kernel)
theorem dX11_term_33 : decode cX11_term 33 = .ok (.getfield 224, 3) := dcw_180 (by decide +kernel)
theorem dX11_term_36 : decode cX11_term 36 = .ok (.iastore, 1) := dc1_79 (by decide +kernel)
theorem dX11_term_37 : decode cX11_term 37 = .ok (.aload_n 0, 1) := dc1_42 (by decide +kernel)
theorem dX11_term_38 : decode cX11_term 38 = .ok (.dup, 1) := dc1_89 (by decide +kernel)
theorem dX11_term_39 : decode cX11_term 39 = .ok (.getfield 221, 3) := dcw_180 (by decide +kernel)
theorem dX11_term_42 : decode cX11_term 42 = .ok (.iconst 1, 1) := dc1_4 (by decide +kernel)
theorem dX11_term_43 : decode cX11_term 43 = .ok (.iadd, 1) := dc1_96 (by decide +kernel)
theorem dX11_term_44 : decode cX11_term 44 = .ok (.putfield 221, 3) := dcw_181 (by decide +kernel)
theorem dX11_term_47 : decode cX11_term 47 = .ok (.return_, 1) := dc1_177 (by decide +kernel)
theorem dX11_begins_0 : decode cX11_begins 0 = .ok (.iconst 0, 1) := dc1_3 (by decide +kernel)
theorem dX11_begins_1 : decode cX11_begins 1 = .ok (.istore_n 1, 1) := dc1_60 (by decide +kernel)
theorem dX11_begins_2 : decode cX11_begins 2 = .ok (.iload_n 1, 1) := dc1_27 (by decide +kernel)
theorem dX11_begins_3 : decode cX11_begins 3 = .ok (.bipush 29, 2) := dcb_16 (n := 29) (by decide +kernel)
theorem dX11_begins_5 : decode cX11_begins 5 = .ok (.if_icmp .ge 32, 3) := dcs_162 (n := 32) (by decide +kernel)
theorem dX11_begins_8 : decode cX11_begins 8 = .ok (.aload_n 0, 1) := dc1_42 (by decide +kernel)
theorem dX11_begins_9 : decode cX11_begins 9 = .ok (.getfield 101, 3) := dcw_180 (by decide +kernel)
theorem dX11_begins_12 : decode cX11_begins 12 = .ok (.iload_n 1, 1) := dc1_27 (by decide +kernel)
theorem dX11_begins_13 : decode cX11_begins 13 = .ok (.iload_n 1, 1) := dc1_27 (by decide +kernel)
theorem dX11_begins_14 : decode cX11_begins 14 = .ok (.iconst 5, 1) := dc1_8 (by decide +kernel)
theorem dX11_begins_15 : decode cX11_begins 15 = .ok (.if_icmp .lt 14, 3) := dcs_161 (n := 14) (by decide +kernel)
theorem dX11_begins_18 : decode cX11_begins 18 = .ok (.iload_n 1, 1) := dc1_27 (by decide +kernel)
theorem dX11_begins_19 : decode cX11_begins 19 = .ok (.bipush 10, 2) := dcb_16 (n := 10) (by decide +kernel)
theorem dX11_begins_21 : decode cX11_begins 21 = .ok (.if_icmp .ge 8, 3) := dcs_162 (n := 8) (by decide +kernel)
theorem dX11_begins_24 : decode cX11_begins 24 = .ok (.bipush (-2), 2) := dcb_16 (n := 254) (by decide +kernel)
theorem dX11_begins_26 : decode cX11_begins 26 = .ok (.goto 4, 3) := dcs_167 (n := 4) (by decide +kernel)
theorem dX11_begins_29 : decode cX11_begins 29 = .ok (.iconst 0, 1) := dc1_3 (by decide +kernel)
theorem dX11_begins_30 : decode cX11_begins 30 = .ok (.iastore, 1) := dc1_79 (by decide +kernel)
theorem dX11_begins_31 : decode cX11_begins 31 = .ok (.iinc 1 1, 3) := dc_iinc (m := 1) (by decide +kernel)
theorem dX11_begins_34 : decode cX11_begins 34 = .ok (.goto (-32), 3) := dcs_167 (n := 65504) (by decide +kernel)
theorem dX11_begins_37 : decode cX11_begins 37 = .ok (.aload_n 0, 1) := dc1_42 (by decide +kernel)
theorem dX11_begins_38 : decode cX11_begins 38 = .ok (.getfield 104, 3) := dcw_180 (by decide +kernel)
theorem dX11_begins_41 : decode cX11_begins 41 = .ok (.iconst 0, 1) := dc1_3 (by decide +kernel)
theorem dX11_begins_42 : decode cX11_begins 42 = .ok (.iconst 1, 1) := dc1_4 (by decide +kernel)
theorem dX11_begins_43 : decode cX11_begins 43 = .ok (.iastore, 1) := dc1_79 (by decide +kernel)
theorem dX11_begins_44 : decode cX11_begins 44 = .ok (.iconst 1, 1) := dc1_4 (by decide +kernel)
theorem dX11_begins_45 : decode cX11_begins 45 = .ok (.istore_n 1, 1) := dc1_60 (by decide +kernel)
theorem dX11_begins_46 : decode cX11_begins 46 = .ok (.iload_n 1, 1) := dc1_27 (by decide +kernel)
theorem dX11_begins_47 : decode cX11_begins 47 = .ok (.bipush 6, 2) := dcb_16 (n := 6) (by decide +kernel)
theorem dX11_begins_49 : decode cX11_begins 49 = .ok (.if_icmp .ge 26, 3) := dcs_162 (n := 26) (by decide +kernel)
theorem dX11_begins_52 : decode cX11_begins 52 = .ok (.aload_n 0, 1) := dc1_42 (by decide +kernel)
theorem dX11_begins_53 : decode cX11_begins 53 = .ok (.getfield 104, 3) := dcw_180 (by decide +kernel)
theorem dX11_begins_56 : decode cX11_begins 56 = .ok (.iload_n 1, 1) := dc1_27 (by decide +kernel)
theorem dX11_begins_57 : decode cX11_begins 57 = .ok (.bipush 6, 2) := dcb_16 (n := 6) (by decide +kernel)
theorem dX11_begins_59 : decode cX11_begins 59 = .ok (.aload_n 0, 1) := dc1_42 (by decide +kernel)
theorem dX11_begins_60 : decode cX11_begins 60 = .ok (.getfield 104, 3) := dcw_180 (by decide +kernel)
theorem dX11_begins_63 : decode cX11_begins 63 = .ok (.iload_n 1, 1) := dc1_27 (by decide +kernel)
theorem dX11_begins_64 : decode cX11_begins 64 = .ok (.iconst 1, 1) := dc1_4 (by decide +kernel)
theorem dX11_begins_65 : decode cX11_begins 65 = .ok (.isub, 1) := dc1_100 (by decide +kernel)
theorem dX11_begins_66 : decode cX11_begins 66 = .ok (.iaload, 1) := dc1_46 (by decide +kernel)
theorem dX11_begins_67 : decode cX11_begins 67 = .ok (.imul, 1) := dc1_104 (by decide +kernel)
theorem dX11_begins_68 : decode cX11_begins 68 = .ok (.iastore, 1) := dc1_79 (by decide +kernel)
theorem dX11_begins_69 : decode cX11_begins 69 = .ok (.iinc 1 1, 3) := dc_iinc (m := 1) (by decide +kernel)
theorem dX11_begins_72 : decode cX11_begins 72 = .ok (.goto (-26), 3) := dcs_167 (n := 65510) (by decide +kernel)
theorem dX11_begins_75 : decode cX11_begins 75 = .ok (.aload_n 0, 1) := dc1_42 (by decide +kernel)
theorem dX11_begins_76 : decode cX11_begins 76 = .ok (.aload_n 0, 1) := dc1_42 (by decide +kernel)
theorem dX11_begins_77 : decode cX11_begins 77 = .ok (.getfield 58, 3) := dcw_180 (by decide +kernel)
theorem dX11_begins_80 : decode cX11_begins 80 = .ok (.aload_n 0, 1) := dc1_42 (by decide +kernel)
theorem dX11_begins_81 : decode cX11_begins 81 = .ok (.getfield 215, 3) := dcw_180 (by decide +kernel)
theorem dX11_begins_84 : decode cX11_begins 84 = .ok (.iaload, 1) := dc1_46 (by decide +kernel)
theorem dX11_begins_85 : decode cX11_begins 85 = .ok (.putfield 289, 3) := dcw_181 (by decide +kernel)
theorem dX11_begins_88 : decode cX11_begins 88 = .ok (.return_, 1) := dc1_177 (by decide +kernel)
theorem LX11_term_185 : Cond.fieldLink RX11 185 "GuessFerryModel" "fault" "I" ∈ wsX11_term := (List.mem_cons_of_mem _ (List.mem_append_left _ (List.mem_append_left _ (List.mem_of_getElem? (i := 3) rfl))))
theorem LX11_term_221 : Cond.fieldLink RX11 221 "GuessFerryModel" "branches" "I" ∈ wsX11_term := (List.mem_cons_of_mem _ (List.mem_append_left _ (List.mem_append_left _ (List.mem_of_getElem? (i := 1) rfl))))
theorem LX11_term_224 : Cond.fieldLink RX11 224 "GuessFerryModel" "codes" "I" ∈ wsX11_term := (List.mem_cons_of_mem _ (List.mem_append_left _ (List.mem_append_left _ (List.mem_of_getElem? (i := 2) rfl))))
theorem LX11_term_77 : Cond.fieldLink RX11 77 "GuessFerryModel" "testTo" "[I" ∈ wsX11_term := (List.mem_cons_of_mem _ (List.mem_append_left _ (List.mem_append_left _ (List.mem_of_getElem? (i := 0) rfl))))
theorem LX11_term_80 : Cond.fieldLink RX11 80 "GuessFerryModel" "termTo" "[I" ∈ wsX11_term := (List.mem_cons_of_mem _ (List.mem_append_left _ (List.mem_append_left _ (List.mem_of_getElem? (i := 4) rfl))))
theorem inX11_term_X11 : ∀ w ∈ u_ws RX11 TX11 58, w ∈ wsX11_term := fun w h => (List.mem_cons_of_mem _ (List.mem_append_right _ h))
set_option maxHeartbeats 4000000 in
set_option maxRecDepth 100000 in
theorem br_term_24 {l : Launch} {dC : Nat → ClassId} {dI : Nat → Nat → Nat} {cB cI cJ cZ cS : ClassId} {h : Nat} {a : Nat → Nat} {as : List Value} {s' : RS} (s : RS) (hB : r_term_24 s = some s') : BlkV l yX11_term wsX11_term ({ frames := 4, cells := 0, slots := 0, locals := 83 }) cX11_term 1 none (dC, dI) (tysA cB cI cJ cZ cS) as 24 (mwS cB cI cJ cZ h a s) [(0, .ref h)] [] (fun u => u = (mwS cB cI cJ cZ h a s')) := by
  intro p e s0 m below meth c A E H locs ls hP hD hS hl
  obtain ⟨C, hr, hlocks, hA, hK, hN⟩ := id E
  obtain ⟨hx, hb, hml, hown, hts⟩ := id C
  unfold r_term_24 at hB
  refine lv_aload_n hx hb dX11_term_24 rfl (lv_at hl 0 rfl) ?_
  refine q_get (v := .ref (a 34)) C inX11_term_X11 hK hP 0 rfl rfl 34 (by decide) rfl LX11_term_80 rfl dX11_term_25 ?_
  refine lv_aload_n hx hb dX11_term_28 rfl (lv_at hl 0 rfl) ?_
  refine q_get (v := .int (s.v 29)) C inX11_term_X11 hK hP 0 rfl rfl 29 (by decide) rfl LX11_term_221 rfl dX11_term_29 ?_
  refine lv_aload_n hx hb dX11_term_32 rfl (lv_at hl 0 rfl) ?_
  refine q_get (v := .int (s.v 35)) C inX11_term_X11 hK hP 0 rfl rfl 35 (by decide) rfl LX11_term_224 rfl dX11_term_33 ?_
  obtain ⟨g1, hB⟩ := guard_inv hB
  obtain ⟨s2, hs3, hB⟩ := letS_inv hB
  refine q_iast (f2 := (upd (s.f 34) (Int32.toNatClampNeg (s.v 29)) (s.v 35))) (w2 := (mwS cB cI cJ cZ h a s2)) C hK hP hD hS 21 1 rfl rfl (vpb_in g1) dX11_term_36 rfl (mwS_f34 hs3) (fun H locs hP hD hS => ?_)
  refine lv_aload_n hx hb dX11_term_37 rfl (lv_at hl 0 rfl) ?_
  refine lv_dup hx hb dX11_term_38 rfl ?_
  refine q_get (v := .int (s2.v 29)) C inX11_term_X11 hK hP 0 rfl rfl 29 (by decide) rfl LX11_term_221 rfl dX11_term_39 ?_
  refine lv_iconst (v := 1) hx hb dX11_term_42 (by decide) ?_
  refine lv_iadd hx hb dX11_term_43 ?_
  obtain ⟨s4, hs5, hB⟩ := letS_inv hB
  refine q_put (ty := .int) (w2 := (mwS cB cI cJ cZ h a s4)) tyX11 tyX11_ok nmX11 C inX11_term_X11 hK hP hD hS 0 rfl rfl 29 (by decide) rfl LX11_term_221 rfl (by decide +kernel) (rfl) rfl (Nat.le_of_ble_eq_true rfl) dX11_term_44 (mwS_v29 hs5) (fun H locs hP hD hS => ?_)
  exact q_vret C hr hlocks hK hP hD hS (Nat.le_of_ble_eq_true rfl) (Nat.le_of_ble_eq_true rfl) dX11_term_47 (by cases hB; rfl)
set_option maxHeartbeats 4000000 in
set_option maxRecDepth 100000 in
theorem br_term {l : Launch} {dC : Nat → ClassId} {dI : Nat → Nat → Nat} {cB cI cJ cZ cS : ClassId} {h : Nat} {a : Nat → Nat} {as : List Value} {s' : RS} (s : RS) (hB : r_term s = some s') : BlkV l yX11_term wsX11_term ({ frames := 4, cells := 0, slots := 0, locals := 83 }) cX11_term 1 none (dC, dI) (tysA cB cI cJ cZ cS) as 0 (mwS cB cI cJ cZ h a s) [(0, .ref h)] [] (fun u => u = (mwS cB cI cJ cZ h a s')) := by
  intro p e s0 m below meth c A E H locs ls hP hD hS hl
  obtain ⟨C, hr, hlocks, hA, hK, hN⟩ := id E
  obtain ⟨hx, hb, hml, hown, hts⟩ := id C
  unfold r_term at hB
  refine lv_aload_n hx hb dX11_term_0 rfl (lv_at hl 0 rfl) ?_
  refine q_get (v := .ref (a 33)) C inX11_term_X11 hK hP 0 rfl rfl 33 (by decide) rfl LX11_term_77 rfl dX11_term_1 ?_
  refine lv_aload_n hx hb dX11_term_4 rfl (lv_at hl 0 rfl) ?_
  refine q_get (v := .int (s.v 29)) C inX11_term_X11 hK hP 0 rfl rfl 29 (by decide) rfl LX11_term_221 rfl dX11_term_5 ?_
  refine lv_aload_n hx hb dX11_term_8 rfl (lv_at hl 0 rfl) ?_
  refine q_get (v := .int (s.v 35)) C inX11_term_X11 hK hP 0 rfl rfl 35 (by decide) rfl LX11_term_224 rfl dX11_term_9 ?_
  obtain ⟨g1, hB⟩ := guard_inv hB
  obtain ⟨s2, hs3, hB⟩ := letS_inv hB
  refine q_iast (f2 := (upd (s.f 33) (Int32.toNatClampNeg (s.v 29)) (s.v 35))) (w2 := (mwS cB cI cJ cZ h a s2)) C hK hP hD hS 20 1 rfl rfl (vpb_in g1) dX11_term_12 rfl (mwS_f33 hs3) (fun H locs hP hD hS => ?_)
  refine lv_aload_n hx hb dX11_term_13 rfl (lv_at hl 0 rfl) ?_
  refine q_get (v := .int (s2.v 13)) C inX11_term_X11 hK hP 0 rfl rfl 13 (by decide) rfl LX11_term_185 rfl dX11_term_14 ?_
  refine lv_if_ne (tgt := 24) hx hb dX11_term_17 (by decide) (fun c4 => ?_) (fun c4 => ?_)
  · have hB := if_n hB c4
    exact br_term_24 _ hB p e s0 m below meth c A E H locs ls hP hD hS (lv_sub hl [0] rfl)
  · have hB := if_p hB c4
    refine lv_aload_n hx hb dX11_term_20 rfl (lv_at hl 0 rfl) ?_
    obtain ⟨s5, hc, hB⟩ := bindP_inv hB
    refine q_govF (va_runV (As := []) (rest := []) C (cr_expression hc _) (cwV 0 hts gX11_term_X11_expression rfl rfl rfl (by decide +kernel) ⟨Nat.le_of_ble_eq_true rfl, Nat.le_of_ble_eq_true rfl⟩) (q_preV hK hP (ci := 11) (q0 := 0) rfl rfl rfl (q_preF hN hK hP hD)) rfl rfl hl.1 rfl (lv_room (Nat.le_of_ble_eq_true rfl)) dX11_term_21 ⟨Nat.le_of_ble_eq_true rfl, Nat.le_of_ble_eq_true rfl⟩) hD hS hA (fun w1 H locs hw hP hD hS => ?_)
    subst hw
    exact br_term_24 _ hB p e s0 m below meth c A E H locs ls hP hD hS (lv_sub hl [0] rfl)
theorem cr_term {l : Launch} {dC : Nat → ClassId} {dI : Nat → Nat → Nat} {cB cI cJ cZ cS : ClassId} {h : Nat} {a : Nat → Nat} {s' : RS} {s : RS} (hB : r_term s = some s') : CV l yX11_term wsX11_term ({ frames := 4, cells := 0, slots := 0, locals := 83 }) (dC, dI) (tysA cB cI cJ cZ cS) (mwS cB cI cJ cZ h a s) [.ref h] (fun u => u = (mwS cB cI cJ cZ h a s')) :=
  CV_of (cc := cX11_term) (maxL := 1) (ret := none) (by decide) rfl (Nat.le_of_ble_eq_true rfl) (br_term _ hB)
theorem LX11_tellLaw_185 : Cond.fieldLink RX11 185 "GuessFerryModel" "fault" "I" ∈ wsX11_tellLaw := (List.mem_cons_of_mem _ (List.mem_append_left _ (List.mem_append_left _ (List.mem_of_getElem? (i := 1) rfl))))
theorem LX11_tellLaw_218 : Cond.fieldLink RX11 218 "GuessFerryModel" "side" "I" ∈ wsX11_tellLaw := (List.mem_cons_of_mem _ (List.mem_append_left _ (List.mem_append_left _ (List.mem_of_getElem? (i := 7) rfl))))
theorem LX11_tellLaw_221 : Cond.fieldLink RX11 221 "GuessFerryModel" "branches" "I" ∈ wsX11_tellLaw := (List.mem_cons_of_mem _ (List.mem_append_left _ (List.mem_append_left _ (List.mem_of_getElem? (i := 0) rfl))))
theorem LX11_tellLaw_224 : Cond.fieldLink RX11 224 "GuessFerryModel" "codes" "I" ∈ wsX11_tellLaw := (List.mem_cons_of_mem _ (List.mem_append_left _ (List.mem_append_left _ (List.mem_of_getElem? (i := 4) rfl))))
theorem LX11_tellLaw_61 : Cond.fieldLink RX11 61 "GuessFerryModel" "lawFirst" "[I" ∈ wsX11_tellLaw := (List.mem_cons_of_mem _ (List.mem_append_left _ (List.mem_append_left _ (List.mem_of_getElem? (i := 6) rfl))))
theorem LX11_tellLaw_64 : Cond.fieldLink RX11 64 "GuessFerryModel" "lawLast" "[I" ∈ wsX11_tellLaw := (List.mem_cons_of_mem _ (List.mem_append_left _ (List.mem_append_left _ (List.mem_of_getElem? (i := 8) rfl))))
theorem LX11_tellLaw_67 : Cond.fieldLink RX11 67 "GuessFerryModel" "hasTest" "[Z" ∈ wsX11_tellLaw := (List.mem_cons_of_mem _ (List.mem_append_left _ (List.mem_append_left _ (List.mem_of_getElem? (i := 2) rfl))))
theorem LX11_tellLaw_71 : Cond.fieldLink RX11 71 "GuessFerryModel" "testFrom" "[I" ∈ wsX11_tellLaw := (List.mem_cons_of_mem _ (List.mem_append_left _ (List.mem_append_left _ (List.mem_of_getElem? (i := 3) rfl))))
theorem LX11_tellLaw_74 : Cond.fieldLink RX11 74 "GuessFerryModel" "testMid" "[I" ∈ wsX11_tellLaw := (List.mem_cons_of_mem _ (List.mem_append_left _ (List.mem_append_left _ (List.mem_of_getElem? (i := 5) rfl))))
theorem inX11_tellLaw_X11 : ∀ w ∈ u_ws RX11 TX11 58, w ∈ wsX11_tellLaw := fun w h => (List.mem_cons_of_mem _ (List.mem_append_right _ h))
set_option maxHeartbeats 4000000 in
set_option maxRecDepth 100000 in
theorem br_tellLaw_129 {l : Launch} {dC : Nat → ClassId} {dI : Nat → Nat → Nat} {cB cI cJ cZ cS : ClassId} {h : Nat} {a : Nat → Nat} {as : List Value} {s' : RS} (s : RS) (x1 : Int32) (x2 : Int32) (hB : r_tellLaw_129 s x1 x2 = some s') : BlkV l yX11_tellLaw wsX11_tellLaw ({ frames := 5, cells := 0, slots := 0, locals := 103 }) cX11_tellLaw 4 none (dC, dI) (tysA cB cI cJ cZ cS) as 129 (mwS cB cI cJ cZ h a s) [(0, .ref h), (1, .int x1), (2, .int x2)] [] (fun u => u = (mwS cB cI cJ cZ h a s')) := by
  intro p e s0 m below meth c A E H locs ls hP hD hS hl
  obtain ⟨C, hr, hlocks, hA, hK, hN⟩ := id E
  obtain ⟨hx, hb, hml, hown, hts⟩ := id C
  unfold r_tellLaw_129 at hB
  refine lv_aload_n hx hb dX11_tellLaw_129 rfl (lv_at hl 0 rfl) ?_
  refine q_get (v := .ref (a 30)) C inX11_tellLaw_X11 hK hP 0 rfl rfl 30 (by decide) rfl LX11_tellLaw_67 rfl dX11_tellLaw_130 ?_
  refine lv_aload_n hx hb dX11_tellLaw_133 rfl (lv_at hl 0 rfl) ?_
  refine q_get (v := .int (s.v 29)) C inX11_tellLaw_X11 hK hP 0 rfl rfl 29 (by decide) rfl LX11_tellLaw_221 rfl dX11_tellLaw_134 ?_
  refine lv_iconst (v := 0) hx hb dX11_tellLaw_137 (by decide) ?_
  obtain ⟨g1, hB⟩ := guard_inv hB
  obtain ⟨s2, hs3, hB⟩ := letS_inv hB
  refine q_zast (f2 := (upd (s.f 30) (Int32.toNatClampNeg (s.v 29)) (vp_nar .boolean 0))) (w2 := (mwS cB cI cJ cZ h a s2)) C hK hP hD hS 17 3 rfl rfl (vpb_in g1) dX11_tellLaw_138 rfl (mwS_f30 hs3) (fun H locs hP hD hS => ?_)
  refine lv_aload_n hx hb dX11_tellLaw_139 rfl (lv_at hl 0 rfl) ?_
  obtain ⟨s4, hc, hB⟩ := bindP_inv hB
  refine q_govF (va_runV (As := []) (rest := []) C (cr_term hc _) (cwV 0 hts gX11_tellLaw_X11_term rfl rfl rfl (by decide +kernel) ⟨Nat.le_of_ble_eq_true rfl, Nat.le_of_ble_eq_true rfl⟩) (q_preV hK hP (ci := 11) (q0 := 0) rfl rfl rfl (q_preF hN hK hP hD)) rfl rfl hl.1 rfl (lv_room (Nat.le_of_ble_eq_true rfl)) dX11_tellLaw_140 ⟨Nat.le_of_ble_eq_true rfl, Nat.le_of_ble_eq_true rfl⟩) hD hS hA (fun w1 H locs hw hP hD hS => ?_)
  subst hw
  refine lv_aload_n hx hb dX11_tellLaw_143 rfl (lv_at hl 0 rfl) ?_
  refine lv_iconst (v := 4) hx hb dX11_tellLaw_144 (by decide) ?_
  obtain ⟨s5, hc, hB⟩ := bindP_inv hB
  refine q_govF (va_runV (As := [.int 4]) (rest := []) C (cr_must hc _) (cwV 1 hts gX11_tellLaw_X11_must rfl rfl rfl (by decide +kernel) ⟨Nat.le_of_ble_eq_true rfl, Nat.le_of_ble_eq_true rfl⟩) (q_preV hK hP (ci := 11) (q0 := 0) rfl rfl rfl (q_preF hN hK hP hD)) rfl rfl hl.1 rfl (lv_room (Nat.le_of_ble_eq_true rfl)) dX11_tellLaw_145 ⟨Nat.le_of_ble_eq_true rfl, Nat.le_of_ble_eq_true rfl⟩) hD hS hA (fun w1 H locs hw hP hD hS => ?_)
  subst hw
  refine lv_aload_n hx hb dX11_tellLaw_148 rfl (lv_at hl 0 rfl) ?_
  refine q_get (v := .int (s5.v 13)) C inX11_tellLaw_X11 hK hP 0 rfl rfl 13 (by decide) rfl LX11_tellLaw_185 rfl dX11_tellLaw_149 ?_
  refine lv_if_le (tgt := 156) hx hb dX11_tellLaw_152 (by decide) (fun c6 => ?_) (fun c6 => ?_)
  · have hB := if_p hB c6
    refine lv_aload_n hx hb dX11_tellLaw_156 rfl (lv_at hl 0 rfl) ?_
    refine q_get (v := .ref (a 27)) C inX11_tellLaw_X11 hK hP 0 rfl rfl 27 (by decide) rfl LX11_tellLaw_61 rfl dX11_tellLaw_157 ?_
    refine lv_iconst (v := 4) hx hb dX11_tellLaw_160 (by decide) ?_
    refine lv_aload_n hx hb dX11_tellLaw_161 rfl (lv_at hl 0 rfl) ?_
    refine q_get (v := .int (s5.v 19)) C inX11_tellLaw_X11 hK hP 0 rfl rfl 19 (by decide) rfl LX11_tellLaw_218 rfl dX11_tellLaw_162 ?_
    refine lv_imul hx hb dX11_tellLaw_165 ?_
    refine lv_iload_n hx hb dX11_tellLaw_166 rfl (lv_at hl 1 rfl) ?_
    refine lv_iadd hx hb dX11_tellLaw_167 ?_
    refine lv_iload_n hx hb dX11_tellLaw_168 rfl (lv_at hl 2 rfl) ?_
    obtain ⟨g7, hB⟩ := guard_inv hB
    obtain ⟨s8, hs9, hB⟩ := letS_inv hB
    refine q_iast (f2 := (upd (s5.f 27) (Int32.toNatClampNeg ((4 * (s5.v 19)) + x1)) x2)) (w2 := (mwS cB cI cJ cZ h a s8)) C hK hP hD hS 15 1 rfl rfl (vpb_in g7) dX11_tellLaw_169 rfl (mwS_f27 hs9) (fun H locs hP hD hS => ?_)
    refine lv_aload_n hx hb dX11_tellLaw_170 rfl (lv_at hl 0 rfl) ?_
    refine q_get (v := .ref (a 28)) C inX11_tellLaw_X11 hK hP 0 rfl rfl 28 (by decide) rfl LX11_tellLaw_64 rfl dX11_tellLaw_171 ?_
    refine lv_iconst (v := 4) hx hb dX11_tellLaw_174 (by decide) ?_
    refine lv_aload_n hx hb dX11_tellLaw_175 rfl (lv_at hl 0 rfl) ?_
    refine q_get (v := .int (s8.v 19)) C inX11_tellLaw_X11 hK hP 0 rfl rfl 19 (by decide) rfl LX11_tellLaw_218 rfl dX11_tellLaw_176 ?_
    refine lv_imul hx hb dX11_tellLaw_179 ?_
    refine lv_iload_n hx hb dX11_tellLaw_180 rfl (lv_at hl 1 rfl) ?_
    refine lv_iadd hx hb dX11_tellLaw_181 ?_
    refine lv_aload_n hx hb dX11_tellLaw_182 rfl (lv_at hl 0 rfl) ?_
    refine q_get (v := .int (s8.v 29)) C inX11_tellLaw_X11 hK hP 0 rfl rfl 29 (by decide) rfl LX11_tellLaw_221 rfl dX11_tellLaw_183 ?_
    obtain ⟨g10, hB⟩ := guard_inv hB
    obtain ⟨s11, hs12, hB⟩ := letS_inv hB
    refine q_iast (f2 := (upd (s8.f 28) (Int32.toNatClampNeg ((4 * (s8.v 19)) + x1)) (s8.v 29))) (w2 := (mwS cB cI cJ cZ h a s11)) C hK hP hD hS 16 1 rfl rfl (vpb_in g10) dX11_tellLaw_186 rfl (mwS_f28 hs12) (fun H locs hP hD hS => ?_)
    exact q_vret C hr hlocks hK hP hD hS (Nat.le_of_ble_eq_true rfl) (Nat.le_of_ble_eq_true rfl) dX11_tellLaw_187 (by cases hB; rfl)
  · have hB := if_n hB c6
    exact q_vret C hr hlocks hK hP hD hS (Nat.le_of_ble_eq_true rfl) (Nat.le_of_ble_eq_true rfl) dX11_tellLaw_155 (by cases hB; rfl)
set_option maxHeartbeats 4000000 in
set_option maxRecDepth 100000 in
theorem br_tellLaw_110 {l : Launch} {dC : Nat → ClassId} {dI : Nat → Nat → Nat} {cB cI cJ cZ cS : ClassId} {h : Nat} {a : Nat → Nat} {as : List Value} {s' : RS} {k12 : RS → Int32 → Int32 → Int32 → Option RS} (hk12 : ∀ (s : RS) (x1 : Int32) (x2 : Int32) (x3 : Int32), k12 s x1 x2 x3 = some s' → BlkV l yX11_tellLaw wsX11_tellLaw ({ frames := 5, cells := 0, slots := 0, locals := 103 }) cX11_tellLaw 4 none (dC, dI) (tysA cB cI cJ cZ cS) as 12 (mwS cB cI cJ cZ h a s) [(0, .ref h), (1, .int x1), (2, .int x2), (3, .int x3)] [] (fun u => u = (mwS cB cI cJ cZ h a s'))) (s : RS) (x1 : Int32) (x2 : Int32) (x3 : Int32) (hB : r_tellLaw_110 k12 s x1 x2 x3 = some s') : BlkV l yX11_tellLaw wsX11_tellLaw ({ frames := 5, cells := 0, slots := 0, locals := 103 }) cX11_tellLaw 4 none (dC, dI) (tysA cB cI cJ cZ cS) as 110 (mwS cB cI cJ cZ h a s) [(0, .ref h), (1, .int x1), (2, .int x2), (3, .int x3)] [] (fun u => u = (mwS cB cI cJ cZ h a s')) := by
  intro p e s0 m below meth c A E H locs ls hP hD hS hl
  obtain ⟨C, hr, hlocks, hA, hK, hN⟩ := id E
  obtain ⟨hx, hb, hml, hown, hts⟩ := id C
  unfold r_tellLaw_110 at hB
  refine lv_aload_n hx hb dX11_tellLaw_110 rfl (lv_at hl 0 rfl) ?_
  refine lv_bipush (v := 28) hx hb dX11_tellLaw_111 (by decide) ?_
  obtain ⟨s1, hc, hB⟩ := bindP_inv hB
  refine q_govF (va_runV (As := [.int 28]) (rest := []) C (cr_must hc _) (cwV 1 hts gX11_tellLaw_X11_must rfl rfl rfl (by decide +kernel) ⟨Nat.le_of_ble_eq_true rfl, Nat.le_of_ble_eq_true rfl⟩) (q_preV hK hP (ci := 11) (q0 := 0) rfl rfl rfl (q_preF hN hK hP hD)) rfl rfl hl.1 rfl (lv_room (Nat.le_of_ble_eq_true rfl)) dX11_tellLaw_113 ⟨Nat.le_of_ble_eq_true rfl, Nat.le_of_ble_eq_true rfl⟩) hD hS hA (fun w1 H locs hw hP hD hS => ?_)
  subst hw
  refine lv_aload_n hx hb dX11_tellLaw_116 rfl (lv_at hl 0 rfl) ?_
  obtain ⟨s2, hc, hB⟩ := bindP_inv hB
  refine q_govF (va_runV (As := []) (rest := []) C (cr_term hc _) (cwV 0 hts gX11_tellLaw_X11_term rfl rfl rfl (by decide +kernel) ⟨Nat.le_of_ble_eq_true rfl, Nat.le_of_ble_eq_true rfl⟩) (q_preV hK hP (ci := 11) (q0 := 0) rfl rfl rfl (q_preF hN hK hP hD)) rfl rfl hl.1 rfl (lv_room (Nat.le_of_ble_eq_true rfl)) dX11_tellLaw_117 ⟨Nat.le_of_ble_eq_true rfl, Nat.le_of_ble_eq_true rfl⟩) hD hS hA (fun w1 H locs hw hP hD hS => ?_)
  subst hw
  refine lv_aload_n hx hb dX11_tellLaw_120 rfl (lv_at hl 0 rfl) ?_
  refine lv_bipush (v := 29) hx hb dX11_tellLaw_121 (by decide) ?_
  obtain ⟨s3, hc, hB⟩ := bindP_inv hB
  refine q_govF (va_runV (As := [.int 29]) (rest := []) C (cr_must hc _) (cwV 1 hts gX11_tellLaw_X11_must rfl rfl rfl (by decide +kernel) ⟨Nat.le_of_ble_eq_true rfl, Nat.le_of_ble_eq_true rfl⟩) (q_preV hK hP (ci := 11) (q0 := 0) rfl rfl rfl (q_preF hN hK hP hD)) rfl rfl hl.1 rfl (lv_room (Nat.le_of_ble_eq_true rfl)) dX11_tellLaw_123 ⟨Nat.le_of_ble_eq_true rfl, Nat.le_of_ble_eq_true rfl⟩) hD hS hA (fun w1 H locs hw hP hD hS => ?_)
  subst hw
  refine lv_goto (tgt := 12) hx hb dX11_tellLaw_126 (by decide) ?_
  exact hk12 _ _ _ _ hB p e s0 m below meth c A E H locs ls hP hD hS (lv_sub hl [0, 1, 2, 3] rfl)
set_option maxHeartbeats 4000000 in
set_option maxRecDepth 100000 in
theorem br_tellLaw_38 {l : Launch} {dC : Nat → ClassId} {dI : Nat → Nat → Nat} {cB cI cJ cZ cS : ClassId} {h : Nat} {a : Nat → Nat} {as : List Value} {s' : RS} {k12 : RS → Int32 → Int32 → Int32 → Option RS} (hk12 : ∀ (s : RS) (x1 : Int32) (x2 : Int32) (x3 : Int32), k12 s x1 x2 x3 = some s' → BlkV l yX11_tellLaw wsX11_tellLaw ({ frames := 5, cells := 0, slots := 0, locals := 103 }) cX11_tellLaw 4 none (dC, dI) (tysA cB cI cJ cZ cS) as 12 (mwS cB cI cJ cZ h a s) [(0, .ref h), (1, .int x1), (2, .int x2), (3, .int x3)] [] (fun u => u = (mwS cB cI cJ cZ h a s'))) (s : RS) (x1 : Int32) (x2 : Int32) (x3 : Int32) (hB : r_tellLaw_38 k12 s x1 x2 x3 = some s') : BlkV l yX11_tellLaw wsX11_tellLaw ({ frames := 5, cells := 0, slots := 0, locals := 103 }) cX11_tellLaw 4 none (dC, dI) (tysA cB cI cJ cZ cS) as 38 (mwS cB cI cJ cZ h a s) [(0, .ref h), (1, .int x1), (2, .int x2), (3, .int x3)] [] (fun u => u = (mwS cB cI cJ cZ h a s')) := by
  intro p e s0 m below meth c A E H locs ls hP hD hS hl
  obtain ⟨C, hr, hlocks, hA, hK, hN⟩ := id E
  obtain ⟨hx, hb, hml, hown, hts⟩ := id C
  unfold r_tellLaw_38 at hB
  refine lv_aload_n hx hb dX11_tellLaw_38 rfl (lv_at hl 0 rfl) ?_
  refine q_get (v := .int (s.v 13)) C inX11_tellLaw_X11 hK hP 0 rfl rfl 13 (by decide) rfl LX11_tellLaw_185 rfl dX11_tellLaw_39 ?_
  refine lv_if_le (tgt := 46) hx hb dX11_tellLaw_42 (by decide) (fun c1 => ?_) (fun c1 => ?_)
  · have hB := if_p hB c1
    refine lv_iinc (v := (x3 + 1)) (lv' := [(3, .int (x3 + 1)), (0, .ref h), (1, .int x1), (2, .int x2)]) hx hb dX11_tellLaw_46 hl (k := 3) rfl (rfl) (by decide) rfl (fun ls hl => ?_)
    refine lv_aload_n hx hb dX11_tellLaw_49 rfl (lv_at hl 1 rfl) ?_
    obtain ⟨s2, hc, hB⟩ := bindP_inv hB
    refine q_govF (va_runV (As := []) (rest := []) C (cr_goesOn hc _) (cwV 0 hts gX11_tellLaw_X11_goesOn rfl rfl rfl (by decide +kernel) ⟨Nat.le_of_ble_eq_true rfl, Nat.le_of_ble_eq_true rfl⟩) (q_preV hK hP (ci := 11) (q0 := 0) rfl rfl rfl (q_preF hN hK hP hD)) rfl rfl hl.1 rfl (lv_room (Nat.le_of_ble_eq_true rfl)) dX11_tellLaw_50 ⟨Nat.le_of_ble_eq_true rfl, Nat.le_of_ble_eq_true rfl⟩) hD hS hA (fun w1 H locs hw hP hD hS => ?_)
    subst hw
    refine lv_aload_n hx hb dX11_tellLaw_53 rfl (lv_at hl 1 rfl) ?_
    refine q_get (v := .ref (a 30)) C inX11_tellLaw_X11 hK hP 0 rfl rfl 30 (by decide) rfl LX11_tellLaw_67 rfl dX11_tellLaw_54 ?_
    refine lv_aload_n hx hb dX11_tellLaw_57 rfl (lv_at hl 1 rfl) ?_
    refine q_get (v := .int (s2.v 29)) C inX11_tellLaw_X11 hK hP 0 rfl rfl 29 (by decide) rfl LX11_tellLaw_221 rfl dX11_tellLaw_58 ?_
    refine lv_iconst (v := 1) hx hb dX11_tellLaw_61 (by decide) ?_
    obtain ⟨g3, hB⟩ := guard_inv hB
    obtain ⟨s4, hs5, hB⟩ := letS_inv hB
    refine q_zast (f2 := (upd (s2.f 30) (Int32.toNatClampNeg (s2.v 29)) (vp_nar .boolean 1))) (w2 := (mwS cB cI cJ cZ h a s4)) C hK hP hD hS 17 3 rfl rfl (vpb_in g3) dX11_tellLaw_62 rfl (mwS_f30 hs5) (fun H locs hP hD hS => ?_)
    refine lv_aload_n hx hb dX11_tellLaw_63 rfl (lv_at hl 1 rfl) ?_
    refine q_get (v := .ref (a 31)) C inX11_tellLaw_X11 hK hP 0 rfl rfl 31 (by decide) rfl LX11_tellLaw_71 rfl dX11_tellLaw_64 ?_
    refine lv_aload_n hx hb dX11_tellLaw_67 rfl (lv_at hl 1 rfl) ?_
    refine q_get (v := .int (s4.v 29)) C inX11_tellLaw_X11 hK hP 0 rfl rfl 29 (by decide) rfl LX11_tellLaw_221 rfl dX11_tellLaw_68 ?_
    refine lv_aload_n hx hb dX11_tellLaw_71 rfl (lv_at hl 1 rfl) ?_
    refine q_get (v := .int (s4.v 35)) C inX11_tellLaw_X11 hK hP 0 rfl rfl 35 (by decide) rfl LX11_tellLaw_224 rfl dX11_tellLaw_72 ?_
    obtain ⟨g6, hB⟩ := guard_inv hB
    obtain ⟨s7, hs8, hB⟩ := letS_inv hB
    refine q_iast (f2 := (upd (s4.f 31) (Int32.toNatClampNeg (s4.v 29)) (s4.v 35))) (w2 := (mwS cB cI cJ cZ h a s7)) C hK hP hD hS 18 1 rfl rfl (vpb_in g6) dX11_tellLaw_75 rfl (mwS_f31 hs8) (fun H locs hP hD hS => ?_)
    refine lv_aload_n hx hb dX11_tellLaw_76 rfl (lv_at hl 1 rfl) ?_
    obtain ⟨s9, hc, hB⟩ := bindP_inv hB
    refine q_govF (va_runV (As := []) (rest := []) C (cr_expression hc _) (cwV 0 hts gX11_tellLaw_X11_expression rfl rfl rfl (by decide +kernel) ⟨Nat.le_of_ble_eq_true rfl, Nat.le_of_ble_eq_true rfl⟩) (q_preV hK hP (ci := 11) (q0 := 0) rfl rfl rfl (q_preF hN hK hP hD)) rfl rfl hl.1 rfl (lv_room (Nat.le_of_ble_eq_true rfl)) dX11_tellLaw_77 ⟨Nat.le_of_ble_eq_true rfl, Nat.le_of_ble_eq_true rfl⟩) hD hS hA (fun w1 H locs hw hP hD hS => ?_)
    subst hw
    refine lv_aload_n hx hb dX11_tellLaw_80 rfl (lv_at hl 1 rfl) ?_
    refine lv_bipush (v := 13) hx hb dX11_tellLaw_81 (by decide) ?_
    obtain ⟨s10, hc, hB⟩ := bindP_inv hB
    refine q_govF (va_runV (As := [.int 13]) (rest := []) C (cr_must hc _) (cwV 1 hts gX11_tellLaw_X11_must rfl rfl rfl (by decide +kernel) ⟨Nat.le_of_ble_eq_true rfl, Nat.le_of_ble_eq_true rfl⟩) (q_preV hK hP (ci := 11) (q0 := 0) rfl rfl rfl (q_preF hN hK hP hD)) rfl rfl hl.1 rfl (lv_room (Nat.le_of_ble_eq_true rfl)) dX11_tellLaw_83 ⟨Nat.le_of_ble_eq_true rfl, Nat.le_of_ble_eq_true rfl⟩) hD hS hA (fun w1 H locs hw hP hD hS => ?_)
    subst hw
    refine lv_aload_n hx hb dX11_tellLaw_86 rfl (lv_at hl 1 rfl) ?_
    refine q_get (v := .ref (a 32)) C inX11_tellLaw_X11 hK hP 0 rfl rfl 32 (by decide) rfl LX11_tellLaw_74 rfl dX11_tellLaw_87 ?_
    refine lv_aload_n hx hb dX11_tellLaw_90 rfl (lv_at hl 1 rfl) ?_
    refine q_get (v := .int (s10.v 29)) C inX11_tellLaw_X11 hK hP 0 rfl rfl 29 (by decide) rfl LX11_tellLaw_221 rfl dX11_tellLaw_91 ?_
    refine lv_aload_n hx hb dX11_tellLaw_94 rfl (lv_at hl 1 rfl) ?_
    refine q_get (v := .int (s10.v 35)) C inX11_tellLaw_X11 hK hP 0 rfl rfl 35 (by decide) rfl LX11_tellLaw_224 rfl dX11_tellLaw_95 ?_
    obtain ⟨g11, hB⟩ := guard_inv hB
    obtain ⟨s12, hs13, hB⟩ := letS_inv hB
    refine q_iast (f2 := (upd (s10.f 32) (Int32.toNatClampNeg (s10.v 29)) (s10.v 35))) (w2 := (mwS cB cI cJ cZ h a s12)) C hK hP hD hS 19 1 rfl rfl (vpb_in g11) dX11_tellLaw_98 rfl (mwS_f32 hs13) (fun H locs hP hD hS => ?_)
    refine lv_aload_n hx hb dX11_tellLaw_99 rfl (lv_at hl 1 rfl) ?_
    refine q_get (v := .int (s12.v 13)) C inX11_tellLaw_X11 hK hP 0 rfl rfl 13 (by decide) rfl LX11_tellLaw_185 rfl dX11_tellLaw_100 ?_
    refine lv_if_ne (tgt := 110) hx hb dX11_tellLaw_103 (by decide) (fun c14 => ?_) (fun c14 => ?_)
    · have hB := if_n hB c14
      exact br_tellLaw_110 (hk12) _ _ _ _ hB p e s0 m below meth c A E H locs ls hP hD hS (lv_sub hl [1, 2, 3, 0] rfl)
    · have hB := if_p hB c14
      refine lv_aload_n hx hb dX11_tellLaw_106 rfl (lv_at hl 1 rfl) ?_
      obtain ⟨s15, hc, hB⟩ := bindP_inv hB
      refine q_govF (va_runV (As := []) (rest := []) C (cr_expression hc _) (cwV 0 hts gX11_tellLaw_X11_expression rfl rfl rfl (by decide +kernel) ⟨Nat.le_of_ble_eq_true rfl, Nat.le_of_ble_eq_true rfl⟩) (q_preV hK hP (ci := 11) (q0 := 0) rfl rfl rfl (q_preF hN hK hP hD)) rfl rfl hl.1 rfl (lv_room (Nat.le_of_ble_eq_true rfl)) dX11_tellLaw_107 ⟨Nat.le_of_ble_eq_true rfl, Nat.le_of_ble_eq_true rfl⟩) hD hS hA (fun w1 H locs hw hP hD hS => ?_)
      subst hw
      exact br_tellLaw_110 (hk12) _ _ _ _ hB p e s0 m below meth c A E H locs ls hP hD hS (lv_sub hl [1, 2, 3, 0] rfl)
  · have hB := if_n hB c1
    exact q_vret C hr hlocks hK hP hD hS (Nat.le_of_ble_eq_true rfl) (Nat.le_of_ble_eq_true rfl) dX11_tellLaw_45 (by cases hB; rfl)
set_option maxHeartbeats 4000000 in
set_option maxRecDepth 100000 in
theorem br_tellLaw_12 {l : Launch} {dC : Nat → ClassId} {dI : Nat → Nat → Nat} {cB cI cJ cZ cS : ClassId} {h : Nat} {a : Nat → Nat} {as : List Value} {s' : RS} {k12 : RS → Int32 → Int32 → Int32 → Option RS} (hk12 : ∀ (s : RS) (x1 : Int32) (x2 : Int32) (x3 : Int32), k12 s x1 x2 x3 = some s' → BlkV l yX11_tellLaw wsX11_tellLaw ({ frames := 5, cells := 0, slots := 0, locals := 103 }) cX11_tellLaw 4 none (dC, dI) (tysA cB cI cJ cZ cS) as 12 (mwS cB cI cJ cZ h a s) [(0, .ref h), (1, .int x1), (2, .int x2), (3, .int x3)] [] (fun u => u = (mwS cB cI cJ cZ h a s'))) (s : RS) (x1 : Int32) (x2 : Int32) (x3 : Int32) (hB : r_tellLaw_12 k12 s x1 x2 x3 = some s') : BlkV l yX11_tellLaw wsX11_tellLaw ({ frames := 5, cells := 0, slots := 0, locals := 103 }) cX11_tellLaw 4 none (dC, dI) (tysA cB cI cJ cZ cS) as 12 (mwS cB cI cJ cZ h a s) [(0, .ref h), (1, .int x1), (2, .int x2), (3, .int x3)] [] (fun u => u = (mwS cB cI cJ cZ h a s')) := by
  intro p e s0 m below meth c A E H locs ls hP hD hS hl
  obtain ⟨C, hr, hlocks, hA, hK, hN⟩ := id E
  obtain ⟨hx, hb, hml, hown, hts⟩ := id C
  unfold r_tellLaw_12 at hB
  refine lv_aload_n hx hb dX11_tellLaw_12 rfl (lv_at hl 0 rfl) ?_
  refine q_get (v := .int (s.v 13)) C inX11_tellLaw_X11 hK hP 0 rfl rfl 13 (by decide) rfl LX11_tellLaw_185 rfl dX11_tellLaw_13 ?_
  refine lv_if_ne (tgt := 129) hx hb dX11_tellLaw_16 (by decide) (fun c1 => ?_) (fun c1 => ?_)
  · have hB := if_n hB c1
    exact br_tellLaw_129 _ _ _ hB p e s0 m below meth c A E H locs ls hP hD hS (lv_sub hl [0, 1, 2] rfl)
  · have hB := if_p hB c1
    refine lv_aload_n hx hb dX11_tellLaw_19 rfl (lv_at hl 0 rfl) ?_
    refine lv_bipush (v := 27) hx hb dX11_tellLaw_20 (by decide) ?_
    obtain ⟨q_, s2, hc, hB⟩ := bindI_inv hB
    refine q_goiF (va_runV (As := [.int 27]) (rest := []) C (cr_is hc _) (cwV 1 hts gX11_tellLaw_X11_is rfl rfl rfl (by decide +kernel) ⟨Nat.le_of_ble_eq_true rfl, Nat.le_of_ble_eq_true rfl⟩) (q_preV hK hP (ci := 11) (q0 := 0) rfl rfl rfl (q_preF hN hK hP hD)) rfl rfl hl.1 rfl (lv_room (Nat.le_of_ble_eq_true rfl)) dX11_tellLaw_22 ⟨Nat.le_of_ble_eq_true rfl, Nat.le_of_ble_eq_true rfl⟩) hD hS hA (fun r3 w1 H locs hw hP hD hS => ?_)
    obtain ⟨hq_, hw⟩ := hw; subst hw; subst hq_
    refine lv_if_eq (tgt := 129) hx hb dX11_tellLaw_25 (by decide) (fun c4 => ?_) (fun c4 => ?_)
    · have hB := if_p hB c4
      exact br_tellLaw_129 _ _ _ hB p e s0 m below meth c A E H locs ls hP hD hS (lv_sub hl [0, 1, 2] rfl)
    · have hB := if_n hB c4
      refine lv_iload_n hx hb dX11_tellLaw_28 rfl (lv_at hl 3 rfl) ?_
      refine lv_iconst (v := 4) hx hb dX11_tellLaw_29 (by decide) ?_
      refine lv_icmp_ne (tgt := 38) hx hb dX11_tellLaw_30 (by decide) (fun c5 => ?_) (fun c5 => ?_)
      · have hB := if_n hB c5
        exact br_tellLaw_38 (hk12) _ _ _ _ hB p e s0 m below meth c A E H locs ls hP hD hS (lv_sub hl [0, 1, 2, 3] rfl)
      · have hB := if_p hB c5
        refine lv_aload_n hx hb dX11_tellLaw_33 rfl (lv_at hl 0 rfl) ?_
        refine lv_iconst (v := 2) hx hb dX11_tellLaw_34 (by decide) ?_
        obtain ⟨s6, hc, hB⟩ := bindP_inv hB
        refine q_govF (va_runV (As := [.int 2]) (rest := []) C (cr_fail hc _) (cwV 1 hts gX11_tellLaw_X11_fail rfl rfl rfl (by decide +kernel) ⟨Nat.le_of_ble_eq_true rfl, Nat.le_of_ble_eq_true rfl⟩) (q_preV hK hP (ci := 11) (q0 := 0) rfl rfl rfl (q_preF hN hK hP hD)) rfl rfl hl.1 rfl (lv_room (Nat.le_of_ble_eq_true rfl)) dX11_tellLaw_35 ⟨Nat.le_of_ble_eq_true rfl, Nat.le_of_ble_eq_true rfl⟩) hD hS hA (fun w1 H locs hw hP hD hS => ?_)
        subst hw
        exact br_tellLaw_38 (hk12) _ _ _ _ hB p e s0 m below meth c A E H locs ls hP hD hS (lv_sub hl [0, 1, 2, 3] rfl)
theorem br_tellLaw_12L {l : Launch} {dC : Nat → ClassId} {dI : Nat → Nat → Nat} {cB cI cJ cZ cS : ClassId} {h : Nat} {a : Nat → Nat} {as : List Value} {s' : RS} : ∀ (n : Nat) (s : RS) (x1 : Int32) (x2 : Int32) (x3 : Int32), r_tellLaw_12L n s x1 x2 x3 = some s' → BlkV l yX11_tellLaw wsX11_tellLaw ({ frames := 5, cells := 0, slots := 0, locals := 103 }) cX11_tellLaw 4 none (dC, dI) (tysA cB cI cJ cZ cS) as 12 (mwS cB cI cJ cZ h a s) [(0, .ref h), (1, .int x1), (2, .int x2), (3, .int x3)] [] (fun u => u = (mwS cB cI cJ cZ h a s')) := by
  intro n
  induction n with
  | zero => intro s x1 x2 x3 hB; exact none_ne hB
  | succ n ih => intro s x1 x2 x3 hB; exact br_tellLaw_12 ih _ _ _ _ hB
set_option maxHeartbeats 4000000 in
set_option maxRecDepth 100000 in
theorem br_tellLaw {l : Launch} {dC : Nat → ClassId} {dI : Nat → Nat → Nat} {cB cI cJ cZ cS : ClassId} {h : Nat} {a : Nat → Nat} {as : List Value} {s' : RS} (s : RS) (x1 : Int32) (hB : r_tellLaw s x1 = some s') : BlkV l yX11_tellLaw wsX11_tellLaw ({ frames := 5, cells := 0, slots := 0, locals := 103 }) cX11_tellLaw 4 none (dC, dI) (tysA cB cI cJ cZ cS) as 0 (mwS cB cI cJ cZ h a s) [(0, .ref h), (1, .int x1)] [] (fun u => u = (mwS cB cI cJ cZ h a s')) := by
  intro p e s0 m below meth c A E H locs ls hP hD hS hl
  obtain ⟨C, hr, hlocks, hA, hK, hN⟩ := id E
  obtain ⟨hx, hb, hml, hown, hts⟩ := id C
  unfold r_tellLaw at hB
  refine lv_aload_n hx hb dX11_tellLaw_0 rfl (lv_at hl 0 rfl) ?_
  refine lv_iconst (v := 5) hx hb dX11_tellLaw_1 (by decide) ?_
  obtain ⟨s1, hc, hB⟩ := bindP_inv hB
  refine q_govF (va_runV (As := [.int 5]) (rest := []) C (cr_must hc _) (cwV 1 hts gX11_tellLaw_X11_must rfl rfl rfl (by decide +kernel) ⟨Nat.le_of_ble_eq_true rfl, Nat.le_of_ble_eq_true rfl⟩) (q_preV hK hP (ci := 11) (q0 := 0) rfl rfl rfl (q_preF hN hK hP hD)) rfl rfl hl.1 rfl (lv_room (Nat.le_of_ble_eq_true rfl)) dX11_tellLaw_2 ⟨Nat.le_of_ble_eq_true rfl, Nat.le_of_ble_eq_true rfl⟩) hD hS hA (fun w1 H locs hw hP hD hS => ?_)
  subst hw
  refine lv_aload_n hx hb dX11_tellLaw_5 rfl (lv_at hl 0 rfl) ?_
  refine q_get (v := .int (s1.v 29)) C inX11_tellLaw_X11 hK hP 0 rfl rfl 29 (by decide) rfl LX11_tellLaw_221 rfl dX11_tellLaw_6 ?_
  refine lv_istore_n (lv' := [(2, .int (s1.v 29)), (0, .ref h), (1, .int x1)]) hx hb dX11_tellLaw_9 rfl hl (by decide) rfl (fun ls hl => ?_)
  refine lv_iconst (v := 0) hx hb dX11_tellLaw_10 (by decide) ?_
  refine lv_istore_n (lv' := [(3, .int 0), (2, .int (s1.v 29)), (0, .ref h), (1, .int x1)]) hx hb dX11_tellLaw_11 rfl hl (by decide) rfl (fun ls hl => ?_)
  exact br_tellLaw_12L fu _ _ _ _ hB p e s0 m below meth c A E H locs ls hP hD hS (lv_sub hl [2, 3, 1, 0] rfl)
theorem cr_tellLaw {l : Launch} {dC : Nat → ClassId} {dI : Nat → Nat → Nat} {cB cI cJ cZ cS : ClassId} {h : Nat} {a : Nat → Nat} {s' : RS} {s : RS} {x1 : Int32} (hB : r_tellLaw s x1 = some s') : CV l yX11_tellLaw wsX11_tellLaw ({ frames := 5, cells := 0, slots := 0, locals := 103 }) (dC, dI) (tysA cB cI cJ cZ cS) (mwS cB cI cJ cZ h a s) [.ref h, .int x1] (fun u => u = (mwS cB cI cJ cZ h a s')) :=
  CV_of (cc := cX11_tellLaw) (maxL := 4) (ret := none) (by decide) rfl (Nat.le_of_ble_eq_true rfl) (br_tellLaw _ _ hB)
theorem LX11_tellOne_185 : Cond.fieldLink RX11 185 "GuessFerryModel" "fault" "I" ∈ wsX11_tellOne := (List.mem_cons_of_mem _ (List.mem_append_left _ (List.mem_append_left _ (List.mem_of_getElem? (i := 4) rfl))))
theorem LX11_tellOne_188 : Cond.fieldLink RX11 188 "GuessFerryModel" "t" "I" ∈ wsX11_tellOne := (List.mem_cons_of_mem _ (List.mem_append_left _ (List.mem_append_left _ (List.mem_of_getElem? (i := 1) rfl))))
theorem LX11_tellOne_20 : Cond.fieldLink RX11 20 "GuessFerryModel" "tKind" "[I" ∈ wsX11_tellOne := (List.mem_cons_of_mem _ (List.mem_append_left _ (List.mem_append_left _ (List.mem_of_getElem? (i := 0) rfl))))
theorem LX11_tellOne_218 : Cond.fieldLink RX11 218 "GuessFerryModel" "side" "I" ∈ wsX11_tellOne := (List.mem_cons_of_mem _ (List.mem_append_left _ (List.mem_append_left _ (List.mem_of_getElem? (i := 3) rfl))))
theorem LX11_tellOne_40 : Cond.fieldLink RX11 40 "GuessFerryModel" "waves" "[I" ∈ wsX11_tellOne := (List.mem_cons_of_mem _ (List.mem_append_left _ (List.mem_append_left _ (List.mem_of_getElem? (i := 2) rfl))))
theorem LX11_tellOne_49 : Cond.fieldLink RX11 49 "GuessFerryModel" "parties" "[I" ∈ wsX11_tellOne := (List.mem_cons_of_mem _ (List.mem_append_left _ (List.mem_append_left _ (List.mem_of_getElem? (i := 5) rfl))))
theorem LX11_tellOne_58 : Cond.fieldLink RX11 58 "GuessFerryModel" "seed" "[I" ∈ wsX11_tellOne := (List.mem_cons_of_mem _ (List.mem_append_left _ (List.mem_append_left _ (List.mem_of_getElem? (i := 6) rfl))))
theorem inX11_tellOne_X11 : ∀ w ∈ u_ws RX11 TX11 58, w ∈ wsX11_tellOne := fun w h => (List.mem_cons_of_mem _ (List.mem_append_right _ h))
set_option maxHeartbeats 4000000 in
set_option maxRecDepth 100000 in
theorem br_tellOne_165 {l : Launch} {dC : Nat → ClassId} {dI : Nat → Nat → Nat} {cB cI cJ cZ cS : ClassId} {h : Nat} {a : Nat → Nat} {as : List Value} {s' : RS} (s : RS) (x1 : Int32) (hB : r_tellOne_165 s x1 = some s') : BlkV l yX11_tellOne wsX11_tellOne ({ frames := 6, cells := 0, slots := 0, locals := 126 }) cX11_tellOne 2 none (dC, dI) (tysA cB cI cJ cZ cS) as 165 (mwS cB cI cJ cZ h a s) [(0, .ref h), (1, .int x1)] [] (fun u => u = (mwS cB cI cJ cZ h a s')) := by
  intro p e s0 m below meth c A E H locs ls hP hD hS hl
  obtain ⟨C, hr, hlocks, hA, hK, hN⟩ := id E
  obtain ⟨hx, hb, hml, hown, hts⟩ := id C
  unfold r_tellOne_165 at hB
  refine lv_aload_n hx hb dX11_tellOne_165 rfl (lv_at hl 0 rfl) ?_
  refine q_get (v := .int (s.v 13)) C inX11_tellOne_X11 hK hP 0 rfl rfl 13 (by decide) rfl LX11_tellOne_185 rfl dX11_tellOne_166 ?_
  refine lv_if_le (tgt := 173) hx hb dX11_tellOne_169 (by decide) (fun c1 => ?_) (fun c1 => ?_)
  · have hB := if_p hB c1
    refine lv_aload_n hx hb dX11_tellOne_173 rfl (lv_at hl 0 rfl) ?_
    obtain ⟨s2, hc, hB⟩ := bindP_inv hB
    refine q_govF (va_runV (As := []) (rest := []) C (cr_goesOn hc _) (cwV 0 hts gX11_tellOne_X11_goesOn rfl rfl rfl (by decide +kernel) ⟨Nat.le_of_ble_eq_true rfl, Nat.le_of_ble_eq_true rfl⟩) (q_preV hK hP (ci := 11) (q0 := 0) rfl rfl rfl (q_preF hN hK hP hD)) rfl rfl hl.1 rfl (lv_room (Nat.le_of_ble_eq_true rfl)) dX11_tellOne_174 ⟨Nat.le_of_ble_eq_true rfl, Nat.le_of_ble_eq_true rfl⟩) hD hS hA (fun w1 H locs hw hP hD hS => ?_)
    subst hw
    refine lv_aload_n hx hb dX11_tellOne_177 rfl (lv_at hl 0 rfl) ?_
    refine lv_iload_n hx hb dX11_tellOne_178 rfl (lv_at hl 1 rfl) ?_
    obtain ⟨s3, hc, hB⟩ := bindP_inv hB
    refine q_govF (va_runV (As := [.int x1]) (rest := []) C (cr_tellLaw hc _) (cwV 1 hts gX11_tellOne_X11_tellLaw rfl rfl rfl (by decide +kernel) ⟨Nat.le_of_ble_eq_true rfl, Nat.le_of_ble_eq_true rfl⟩) (q_preV hK hP (ci := 11) (q0 := 0) rfl rfl rfl (q_preF hN hK hP hD)) rfl rfl hl.1 rfl (lv_room (Nat.le_of_ble_eq_true rfl)) dX11_tellOne_179 ⟨Nat.le_of_ble_eq_true rfl, Nat.le_of_ble_eq_true rfl⟩) hD hS hA (fun w1 H locs hw hP hD hS => ?_)
    subst hw
    exact q_vret C hr hlocks hK hP hD hS (Nat.le_of_ble_eq_true rfl) (Nat.le_of_ble_eq_true rfl) dX11_tellOne_182 (by cases hB; rfl)
  · have hB := if_n hB c1
    exact q_vret C hr hlocks hK hP hD hS (Nat.le_of_ble_eq_true rfl) (Nat.le_of_ble_eq_true rfl) dX11_tellOne_172 (by cases hB; rfl)
set_option maxHeartbeats 4000000 in
set_option maxRecDepth 100000 in
theorem br_tellOne_160 {l : Launch} {dC : Nat → ClassId} {dI : Nat → Nat → Nat} {cB cI cJ cZ cS : ClassId} {h : Nat} {a : Nat → Nat} {as : List Value} {s' : RS} (s : RS) (x1 : Int32) (hB : r_tellOne_160 s x1 = some s') : BlkV l yX11_tellOne wsX11_tellOne ({ frames := 6, cells := 0, slots := 0, locals := 126 }) cX11_tellOne 2 none (dC, dI) (tysA cB cI cJ cZ cS) as 160 (mwS cB cI cJ cZ h a s) [(0, .ref h), (1, .int x1)] [] (fun u => u = (mwS cB cI cJ cZ h a s')) := by
  intro p e s0 m below meth c A E H locs ls hP hD hS hl
  obtain ⟨C, hr, hlocks, hA, hK, hN⟩ := id E
  obtain ⟨hx, hb, hml, hown, hts⟩ := id C
  unfold r_tellOne_160 at hB
  refine lv_aload_n hx hb dX11_tellOne_160 rfl (lv_at hl 0 rfl) ?_
  refine lv_iconst (v := 1) hx hb dX11_tellOne_161 (by decide) ?_
  obtain ⟨s1, hc, hB⟩ := bindP_inv hB
  refine q_govF (va_runV (As := [.int 1]) (rest := []) C (cr_fail hc _) (cwV 1 hts gX11_tellOne_X11_fail rfl rfl rfl (by decide +kernel) ⟨Nat.le_of_ble_eq_true rfl, Nat.le_of_ble_eq_true rfl⟩) (q_preV hK hP (ci := 11) (q0 := 0) rfl rfl rfl (q_preF hN hK hP hD)) rfl rfl hl.1 rfl (lv_room (Nat.le_of_ble_eq_true rfl)) dX11_tellOne_162 ⟨Nat.le_of_ble_eq_true rfl, Nat.le_of_ble_eq_true rfl⟩) hD hS hA (fun w1 H locs hw hP hD hS => ?_)
  subst hw
  exact br_tellOne_165 _ _ hB p e s0 m below meth c A E H locs ls hP hD hS (lv_sub hl [0, 1] rfl)
set_option maxHeartbeats 4000000 in
set_option maxRecDepth 100000 in
theorem br_tellOne {l : Launch} {dC : Nat → ClassId} {dI : Nat → Nat → Nat} {cB cI cJ cZ cS : ClassId} {h : Nat} {a : Nat → Nat} {as : List Value} {s' : RS} (s : RS) (hB : r_tellOne s = some s') : BlkV l yX11_tellOne wsX11_tellOne ({ frames := 6, cells := 0, slots := 0, locals := 126 }) cX11_tellOne 2 none (dC, dI) (tysA cB cI cJ cZ cS) as 0 (mwS cB cI cJ cZ h a s) [(0, .ref h)] [] (fun u => u = (mwS cB cI cJ cZ h a s')) := by
  intro p e s0 m below meth c A E H locs ls hP hD hS hl
  obtain ⟨C, hr, hlocks, hA, hK, hN⟩ := id E
  obtain ⟨hx, hb, hml, hown, hts⟩ := id C
  unfold r_tellOne at hB
  refine lv_aload_n hx hb dX11_tellOne_0 rfl (lv_at hl 0 rfl) ?_
  refine q_get (v := .ref (a 5)) C inX11_tellOne_X11 hK hP 0 rfl rfl 5 (by decide) rfl LX11_tellOne_20 rfl dX11_tellOne_1 ?_
  refine lv_aload_n hx hb dX11_tellOne_4 rfl (lv_at hl 0 rfl) ?_
  refine q_get (v := .int (s.v 11)) C inX11_tellOne_X11 hK hP 0 rfl rfl 11 (by decide) rfl LX11_tellOne_188 rfl dX11_tellOne_5 ?_
  obtain ⟨g1, hB⟩ := guard_inv hB
  refine q_iald (x := (s.f 5 (Int32.toNatClampNeg (s.v 11)))) C hK hP 3 1 rfl rfl (vpb_in g1) dX11_tellOne_8 rfl ?_
  by_cases e2 : (s.f 5 (Int32.toNatClampNeg (s.v 11))) = 20
  · have hB := if_p hB e2
    refine q_top (y := 20) e2 ?_
    refine lv_lookup (off := 35) (tgt := 44) hx hb dX11_tellOne_9 (by decide +kernel) (by decide +kernel) (by decide) ?_
    refine lv_aload_n hx hb dX11_tellOne_44 rfl (lv_at hl 0 rfl) ?_
    refine lv_aload_n hx hb dX11_tellOne_45 rfl (lv_at hl 0 rfl) ?_
    refine q_get (v := .ref (a 20)) C inX11_tellOne_X11 hK hP 0 rfl rfl 20 (by decide) rfl LX11_tellOne_40 rfl dX11_tellOne_46 ?_
    refine lv_aload_n hx hb dX11_tellOne_49 rfl (lv_at hl 0 rfl) ?_
    refine q_get (v := .int (s.v 19)) C inX11_tellOne_X11 hK hP 0 rfl rfl 19 (by decide) rfl LX11_tellOne_218 rfl dX11_tellOne_50 ?_
    obtain ⟨g3, hB⟩ := guard_inv hB
    refine q_iald (x := (s.f 20 (Int32.toNatClampNeg (s.v 19)))) C hK hP 8 1 rfl rfl (vpb_in g3) dX11_tellOne_53 rfl ?_
    refine lv_iconst (v := 5) hx hb dX11_tellOne_54 (by decide) ?_
    obtain ⟨s4, hc, hB⟩ := bindP_inv hB
    refine q_govF (va_runV (As := [.int (s.f 20 (Int32.toNatClampNeg (s.v 19))), .int 5]) (rest := []) C (cr_roomFor hc _) (cwV 2 hts gX11_tellOne_X11_roomFor rfl rfl rfl (by decide +kernel) ⟨Nat.le_of_ble_eq_true rfl, Nat.le_of_ble_eq_true rfl⟩) (q_preV hK hP (ci := 11) (q0 := 0) rfl rfl rfl (q_preF hN hK hP hD)) rfl rfl hl.1 rfl (lv_room (Nat.le_of_ble_eq_true rfl)) dX11_tellOne_55 ⟨Nat.le_of_ble_eq_true rfl, Nat.le_of_ble_eq_true rfl⟩) hD hS hA (fun w1 H locs hw hP hD hS => ?_)
    subst hw
    refine lv_aload_n hx hb dX11_tellOne_58 rfl (lv_at hl 0 rfl) ?_
    refine q_get (v := .int (s4.v 13)) C inX11_tellOne_X11 hK hP 0 rfl rfl 13 (by decide) rfl LX11_tellOne_185 rfl dX11_tellOne_59 ?_
    refine lv_if_ne (tgt := 182) hx hb dX11_tellOne_62 (by decide) (fun c5 => ?_) (fun c5 => ?_)
    · have hB := if_n hB c5
      exact q_vret C hr hlocks hK hP hD hS (Nat.le_of_ble_eq_true rfl) (Nat.le_of_ble_eq_true rfl) dX11_tellOne_182 (by cases hB; rfl)
    · have hB := if_p hB c5
      refine lv_aload_n hx hb dX11_tellOne_65 rfl (lv_at hl 0 rfl) ?_
      obtain ⟨s6, hc, hB⟩ := bindP_inv hB
      refine q_govF (va_runV (As := []) (rest := []) C (cr_tellWave hc _) (cwV 0 hts gX11_tellOne_X11_tellWave rfl rfl rfl (by decide +kernel) ⟨Nat.le_of_ble_eq_true rfl, Nat.le_of_ble_eq_true rfl⟩) (q_preV hK hP (ci := 11) (q0 := 0) rfl rfl rfl (q_preF hN hK hP hD)) rfl rfl hl.1 rfl (lv_room (Nat.le_of_ble_eq_true rfl)) dX11_tellOne_66 ⟨Nat.le_of_ble_eq_true rfl, Nat.le_of_ble_eq_true rfl⟩) hD hS hA (fun w1 H locs hw hP hD hS => ?_)
      subst hw
      refine lv_goto (tgt := 182) hx hb dX11_tellOne_69 (by decide) ?_
      exact q_vret C hr hlocks hK hP hD hS (Nat.le_of_ble_eq_true rfl) (Nat.le_of_ble_eq_true rfl) dX11_tellOne_182 (by cases hB; rfl)
  · have hB := if_n hB e2
    by_cases e7 : (s.f 5 (Int32.toNatClampNeg (s.v 11))) = 21
    · have hB := if_p hB e7
      refine q_top (y := 21) e7 ?_
      refine lv_lookup (off := 63) (tgt := 72) hx hb dX11_tellOne_9 (by decide +kernel) (by decide +kernel) (by decide) ?_
      refine lv_aload_n hx hb dX11_tellOne_72 rfl (lv_at hl 0 rfl) ?_
      refine lv_aload_n hx hb dX11_tellOne_73 rfl (lv_at hl 0 rfl) ?_
      refine q_get (v := .ref (a 23)) C inX11_tellOne_X11 hK hP 0 rfl rfl 23 (by decide) rfl LX11_tellOne_49 rfl dX11_tellOne_74 ?_
      refine lv_aload_n hx hb dX11_tellOne_77 rfl (lv_at hl 0 rfl) ?_
      refine q_get (v := .int (s.v 19)) C inX11_tellOne_X11 hK hP 0 rfl rfl 19 (by decide) rfl LX11_tellOne_218 rfl dX11_tellOne_78 ?_
      obtain ⟨g8, hB⟩ := guard_inv hB
      refine q_iald (x := (s.f 23 (Int32.toNatClampNeg (s.v 19)))) C hK hP 11 1 rfl rfl (vpb_in g8) dX11_tellOne_81 rfl ?_
      refine lv_bipush (v := 6) hx hb dX11_tellOne_82 (by decide) ?_
      obtain ⟨s9, hc, hB⟩ := bindP_inv hB
      refine q_govF (va_runV (As := [.int (s.f 23 (Int32.toNatClampNeg (s.v 19))), .int 6]) (rest := []) C (cr_roomFor hc _) (cwV 2 hts gX11_tellOne_X11_roomFor rfl rfl rfl (by decide +kernel) ⟨Nat.le_of_ble_eq_true rfl, Nat.le_of_ble_eq_true rfl⟩) (q_preV hK hP (ci := 11) (q0 := 0) rfl rfl rfl (q_preF hN hK hP hD)) rfl rfl hl.1 rfl (lv_room (Nat.le_of_ble_eq_true rfl)) dX11_tellOne_84 ⟨Nat.le_of_ble_eq_true rfl, Nat.le_of_ble_eq_true rfl⟩) hD hS hA (fun w1 H locs hw hP hD hS => ?_)
      subst hw
      refine lv_aload_n hx hb dX11_tellOne_87 rfl (lv_at hl 0 rfl) ?_
      refine q_get (v := .int (s9.v 13)) C inX11_tellOne_X11 hK hP 0 rfl rfl 13 (by decide) rfl LX11_tellOne_185 rfl dX11_tellOne_88 ?_
      refine lv_if_ne (tgt := 182) hx hb dX11_tellOne_91 (by decide) (fun c10 => ?_) (fun c10 => ?_)
      · have hB := if_n hB c10
        exact q_vret C hr hlocks hK hP hD hS (Nat.le_of_ble_eq_true rfl) (Nat.le_of_ble_eq_true rfl) dX11_tellOne_182 (by cases hB; rfl)
      · have hB := if_p hB c10
        refine lv_aload_n hx hb dX11_tellOne_94 rfl (lv_at hl 0 rfl) ?_
        obtain ⟨s11, hc, hB⟩ := bindP_inv hB
        refine q_govF (va_runV (As := []) (rest := []) C (cr_tellParty hc _) (cwV 0 hts gX11_tellOne_X11_tellParty rfl rfl rfl (by decide +kernel) ⟨Nat.le_of_ble_eq_true rfl, Nat.le_of_ble_eq_true rfl⟩) (q_preV hK hP (ci := 11) (q0 := 0) rfl rfl rfl (q_preF hN hK hP hD)) rfl rfl hl.1 rfl (lv_room (Nat.le_of_ble_eq_true rfl)) dX11_tellOne_95 ⟨Nat.le_of_ble_eq_true rfl, Nat.le_of_ble_eq_true rfl⟩) hD hS hA (fun w1 H locs hw hP hD hS => ?_)
        subst hw
        refine lv_goto (tgt := 182) hx hb dX11_tellOne_98 (by decide) ?_
        exact q_vret C hr hlocks hK hP hD hS (Nat.le_of_ble_eq_true rfl) (Nat.le_of_ble_eq_true rfl) dX11_tellOne_182 (by cases hB; rfl)
    · have hB := if_n hB e7
      by_cases e12 : (s.f 5 (Int32.toNatClampNeg (s.v 11))) = 26
      · have hB := if_p hB e12
        refine q_top (y := 26) e12 ?_
        refine lv_lookup (off := 92) (tgt := 101) hx hb dX11_tellOne_9 (by decide +kernel) (by decide +kernel) (by decide) ?_
        refine lv_aload_n hx hb dX11_tellOne_101 rfl (lv_at hl 0 rfl) ?_
        obtain ⟨s13, hc, hB⟩ := bindP_inv hB
        refine q_govF (va_runV (As := []) (rest := []) C (cr_goesOn hc _) (cwV 0 hts gX11_tellOne_X11_goesOn rfl rfl rfl (by decide +kernel) ⟨Nat.le_of_ble_eq_true rfl, Nat.le_of_ble_eq_true rfl⟩) (q_preV hK hP (ci := 11) (q0 := 0) rfl rfl rfl (q_preF hN hK hP hD)) rfl rfl hl.1 rfl (lv_room (Nat.le_of_ble_eq_true rfl)) dX11_tellOne_102 ⟨Nat.le_of_ble_eq_true rfl, Nat.le_of_ble_eq_true rfl⟩) hD hS hA (fun w1 H locs hw hP hD hS => ?_)
        subst hw
        refine lv_aload_n hx hb dX11_tellOne_105 rfl (lv_at hl 0 rfl) ?_
        refine q_get (v := .ref (a 26)) C inX11_tellOne_X11 hK hP 0 rfl rfl 26 (by decide) rfl LX11_tellOne_58 rfl dX11_tellOne_106 ?_
        refine lv_aload_n hx hb dX11_tellOne_109 rfl (lv_at hl 0 rfl) ?_
        refine q_get (v := .int (s13.v 19)) C inX11_tellOne_X11 hK hP 0 rfl rfl 19 (by decide) rfl LX11_tellOne_218 rfl dX11_tellOne_110 ?_
        refine lv_aload_n hx hb dX11_tellOne_113 rfl (lv_at hl 0 rfl) ?_
        refine lv_sipush (v := 9999) hx hb dX11_tellOne_114 (by decide) ?_
        obtain ⟨q_, s14, hc, hB⟩ := bindI_inv hB
        refine q_goiF (va_runV (As := [.int 9999]) (rest := [.int (s13.v 19), .ref (a 26)]) C (cr_bounded hc _) (cwV 1 hts gX11_tellOne_X11_bounded rfl rfl rfl (by decide +kernel) ⟨Nat.le_of_ble_eq_true rfl, Nat.le_of_ble_eq_true rfl⟩) (q_preV hK hP (ci := 11) (q0 := 0) rfl rfl rfl (q_preF hN hK hP hD)) rfl rfl hl.1 rfl (lv_room (Nat.le_of_ble_eq_true rfl)) dX11_tellOne_117 ⟨Nat.le_of_ble_eq_true rfl, Nat.le_of_ble_eq_true rfl⟩) hD hS hA (fun r15 w1 H locs hw hP hD hS => ?_)
        obtain ⟨hq_, hw⟩ := hw; subst hw; subst hq_
        obtain ⟨g16, hB⟩ := guard_inv hB
        obtain ⟨s17, hs18, hB⟩ := letS_inv hB
        refine q_iast (f2 := (upd (s14.f 26) (Int32.toNatClampNeg (s13.v 19)) r15)) (w2 := (mwS cB cI cJ cZ h a s17)) C hK hP hD hS 14 1 rfl rfl (vpb_in g16) dX11_tellOne_120 rfl (mwS_f26 hs18) (fun H locs hP hD hS => ?_)
        refine lv_aload_n hx hb dX11_tellOne_121 rfl (lv_at hl 0 rfl) ?_
        refine lv_iconst (v := 4) hx hb dX11_tellOne_122 (by decide) ?_
        obtain ⟨s19, hc, hB⟩ := bindP_inv hB
        refine q_govF (va_runV (As := [.int 4]) (rest := []) C (cr_must hc _) (cwV 1 hts gX11_tellOne_X11_must rfl rfl rfl (by decide +kernel) ⟨Nat.le_of_ble_eq_true rfl, Nat.le_of_ble_eq_true rfl⟩) (q_preV hK hP (ci := 11) (q0 := 0) rfl rfl rfl (q_preF hN hK hP hD)) rfl rfl hl.1 rfl (lv_room (Nat.le_of_ble_eq_true rfl)) dX11_tellOne_123 ⟨Nat.le_of_ble_eq_true rfl, Nat.le_of_ble_eq_true rfl⟩) hD hS hA (fun w1 H locs hw hP hD hS => ?_)
        subst hw
        refine lv_goto (tgt := 182) hx hb dX11_tellOne_126 (by decide) ?_
        exact q_vret C hr hlocks hK hP hD hS (Nat.le_of_ble_eq_true rfl) (Nat.le_of_ble_eq_true rfl) dX11_tellOne_182 (by cases hB; rfl)
      · have hB := if_n hB e12
        refine lv_lookup (off := 120) (tgt := 129) hx hb dX11_tellOne_9 (by decide +kernel) (by have z0 := ne_toInt (k := 20) rfl e2; have z1 := ne_toInt (k := 21) rfl e7; have z2 := ne_toInt (k := 26) rfl e12; simp [Op.lookupswitch.offset, z0, Ne.symm z0, z1, Ne.symm z1, z2, Ne.symm z2]) (by decide) ?_
        refine lv_aload_n hx hb dX11_tellOne_129 rfl (lv_at hl 0 rfl) ?_
        refine q_get (v := .ref (a 5)) C inX11_tellOne_X11 hK hP 0 rfl rfl 5 (by decide) rfl LX11_tellOne_20 rfl dX11_tellOne_130 ?_
        refine lv_aload_n hx hb dX11_tellOne_133 rfl (lv_at hl 0 rfl) ?_
        refine q_get (v := .int (s.v 11)) C inX11_tellOne_X11 hK hP 0 rfl rfl 11 (by decide) rfl LX11_tellOne_188 rfl dX11_tellOne_134 ?_
        obtain ⟨g20, hB⟩ := guard_inv hB
        refine q_iald (x := (s.f 5 (Int32.toNatClampNeg (s.v 11)))) C hK hP 3 1 rfl rfl (vpb_in g20) dX11_tellOne_137 rfl ?_
        refine lv_bipush (v := 22) hx hb dX11_tellOne_138 (by decide) ?_
        refine lv_isub hx hb dX11_tellOne_140 ?_
        refine lv_istore_n (lv' := [(1, .int ((s.f 5 (Int32.toNatClampNeg (s.v 11))) - 22)), (0, .ref h)]) hx hb dX11_tellOne_141 rfl hl (by decide) rfl (fun ls hl => ?_)
        refine lv_iload_n hx hb dX11_tellOne_142 rfl (lv_at hl 0 rfl) ?_
        refine lv_if_lt (tgt := 160) hx hb dX11_tellOne_143 (by decide) (fun c21 => ?_) (fun c21 => ?_)
        · have hB := if_p hB c21
          exact br_tellOne_160 _ _ hB p e s0 m below meth c A E H locs ls hP hD hS (lv_sub hl [1, 0] rfl)
        · have hB := if_n hB c21
          refine lv_aload_n hx hb dX11_tellOne_146 rfl (lv_at hl 1 rfl) ?_
          refine q_get (v := .ref (a 5)) C inX11_tellOne_X11 hK hP 0 rfl rfl 5 (by decide) rfl LX11_tellOne_20 rfl dX11_tellOne_147 ?_
          refine lv_aload_n hx hb dX11_tellOne_150 rfl (lv_at hl 1 rfl) ?_
          refine q_get (v := .int (s.v 11)) C inX11_tellOne_X11 hK hP 0 rfl rfl 11 (by decide) rfl LX11_tellOne_188 rfl dX11_tellOne_151 ?_
          obtain ⟨g22, hB⟩ := guard_inv hB
          refine q_iald (x := (s.f 5 (Int32.toNatClampNeg (s.v 11)))) C hK hP 3 1 rfl rfl (vpb_in g22) dX11_tellOne_154 rfl ?_
          refine lv_bipush (v := 25) hx hb dX11_tellOne_155 (by decide) ?_
          refine lv_icmp_le (tgt := 165) hx hb dX11_tellOne_157 (by decide) (fun c23 => ?_) (fun c23 => ?_)
          · have hB := if_p hB c23
            exact br_tellOne_165 _ _ hB p e s0 m below meth c A E H locs ls hP hD hS (lv_sub hl [1, 0] rfl)
          · have hB := if_n hB c23
            exact br_tellOne_160 _ _ hB p e s0 m below meth c A E H locs ls hP hD hS (lv_sub hl [1, 0] rfl)
theorem cr_tellOne {l : Launch} {dC : Nat → ClassId} {dI : Nat → Nat → Nat} {cB cI cJ cZ cS : ClassId} {h : Nat} {a : Nat → Nat} {s' : RS} {s : RS} (hB : r_tellOne s = some s') : CV l yX11_tellOne wsX11_tellOne ({ frames := 6, cells := 0, slots := 0, locals := 126 }) (dC, dI) (tysA cB cI cJ cZ cS) (mwS cB cI cJ cZ h a s) [.ref h] (fun u => u = (mwS cB cI cJ cZ h a s')) :=
  CV_of (cc := cX11_tellOne) (maxL := 2) (ret := none) (by decide) rfl (Nat.le_of_ble_eq_true rfl) (br_tellOne _ hB)
theorem LX11_begins_101 : Cond.fieldLink RX11 101 "GuessFerryModel" "row" "[I" ∈ wsX11_begins := (List.mem_cons_of_mem _ (List.mem_append_left _ (List.mem_of_getElem? (i := 0) rfl)))
theorem LX11_begins_104 : Cond.fieldLink RX11 104 "GuessFerryModel" "sixes" "[I" ∈ wsX11_begins := (List.mem_cons_of_mem _ (List.mem_append_left _ (List.mem_of_getElem? (i := 1) rfl)))
theorem LX11_begins_215 : Cond.fieldLink RX11 215 "GuessFerryModel" "live" "I" ∈ wsX11_begins := (List.mem_cons_of_mem _ (List.mem_append_left _ (List.mem_of_getElem? (i := 3) rfl)))
theorem LX11_begins_289 : Cond.fieldLink RX11 289 "GuessFerryModel" "lots" "I" ∈ wsX11_begins := (List.mem_cons_of_mem _ (List.mem_append_left _ (List.mem_of_getElem? (i := 4) rfl)))
theorem LX11_begins_58 : Cond.fieldLink RX11 58 "GuessFerryModel" "seed" "[I" ∈ wsX11_begins := (List.mem_cons_of_mem _ (List.mem_append_left _ (List.mem_of_getElem? (i := 2) rfl)))
theorem inX11_begins_X11 : ∀ w ∈ u_ws RX11 TX11 58, w ∈ wsX11_begins := fun _ h => List.mem_cons_of_mem _ (List.mem_append_right _ h)
set_option maxHeartbeats 4000000 in
set_option maxRecDepth 100000 in
theorem br_begins_46 {l : Launch} {dC : Nat → ClassId} {dI : Nat → Nat → Nat} {cB cI cJ cZ cS : ClassId} {h : Nat} {a : Nat → Nat} {as : List Value} {s' : RS} {k46 : RS → Int32 → Option RS} (hk46 : ∀ (s : RS) (x1 : Int32), k46 s x1 = some s' → BlkV l yX11_begins wsX11_begins ({ frames := 0, cells := 0, slots := 0, locals := 0 }) cX11_begins 2 none (dC, dI) (tysA cB cI cJ cZ cS) as 46 (mwS cB cI cJ cZ h a s) [(0, .ref h), (1, .int x1)] [] (fun u => u = (mwS cB cI cJ cZ h a s'))) (s : RS) (x1 : Int32) (hB : r_begins_46 k46 s x1 = some s') : BlkV l yX11_begins wsX11_begins ({ frames := 0, cells := 0, slots := 0, locals := 0 }) cX11_begins 2 none (dC, dI) (tysA cB cI cJ cZ cS) as 46 (mwS cB cI cJ cZ h a s) [(0, .ref h), (1, .int x1)] [] (fun u => u = (mwS cB cI cJ cZ h a s')) := by
  intro p e s0 m below meth c A E H locs ls hP hD hS hl
  obtain ⟨C, hr, hlocks, hA, hK, hN⟩ := id E
  obtain ⟨hx, hb, hml, hown, hts⟩ := id C
  unfold r_begins_46 at hB
  refine lv_iload_n hx hb dX11_begins_46 rfl (lv_at hl 1 rfl) ?_
  refine lv_bipush (v := 6) hx hb dX11_begins_47 (by decide) ?_
  refine lv_icmp_ge (tgt := 75) hx hb dX11_begins_49 (by decide) (fun c1 => ?_) (fun c1 => ?_)
  · have hB := if_p hB c1
    refine lv_aload_n hx hb dX11_begins_75 rfl (lv_at hl 0 rfl) ?_
    refine lv_aload_n hx hb dX11_begins_76 rfl (lv_at hl 0 rfl) ?_
    refine q_get (v := .ref (a 26)) C inX11_begins_X11 hK hP 0 rfl rfl 26 (by decide) rfl LX11_begins_58 rfl dX11_begins_77 ?_
    refine lv_aload_n hx hb dX11_begins_80 rfl (lv_at hl 0 rfl) ?_
    refine q_get (v := .int (s.v 18)) C inX11_begins_X11 hK hP 0 rfl rfl 18 (by decide) rfl LX11_begins_215 rfl dX11_begins_81 ?_
    obtain ⟨g2, hB⟩ := guard_inv hB
    refine q_iald (x := (s.f 26 (Int32.toNatClampNeg (s.v 18)))) C hK hP 14 1 rfl rfl (vpb_in g2) dX11_begins_84 rfl ?_
    obtain ⟨s3, hs4, hB⟩ := letS_inv hB
    refine q_put (ty := .int) (w2 := (mwS cB cI cJ cZ h a s3)) tyX11 tyX11_ok nmX11 C inX11_begins_X11 hK hP hD hS 0 rfl rfl 45 (by decide) rfl LX11_begins_289 rfl (by decide +kernel) (rfl) rfl (Nat.le_of_ble_eq_true rfl) dX11_begins_85 (mwS_v45 hs4) (fun H locs hP hD hS => ?_)
    exact q_vret C hr hlocks hK hP hD hS (Nat.le_of_ble_eq_true rfl) (Nat.le_of_ble_eq_true rfl) dX11_begins_88 (by cases hB; rfl)
  · have hB := if_n hB c1
    refine lv_aload_n hx hb dX11_begins_52 rfl (lv_at hl 0 rfl) ?_
    refine q_get (v := .ref (a 46)) C inX11_begins_X11 hK hP 0 rfl rfl 46 (by decide) rfl LX11_begins_104 rfl dX11_begins_53 ?_
    refine lv_iload_n hx hb dX11_begins_56 rfl (lv_at hl 1 rfl) ?_
    refine lv_bipush (v := 6) hx hb dX11_begins_57 (by decide) ?_
    refine lv_aload_n hx hb dX11_begins_59 rfl (lv_at hl 0 rfl) ?_
    refine q_get (v := .ref (a 46)) C inX11_begins_X11 hK hP 0 rfl rfl 46 (by decide) rfl LX11_begins_104 rfl dX11_begins_60 ?_
    refine lv_iload_n hx hb dX11_begins_63 rfl (lv_at hl 1 rfl) ?_
    refine lv_iconst (v := 1) hx hb dX11_begins_64 (by decide) ?_
    refine lv_isub hx hb dX11_begins_65 ?_
    obtain ⟨g5, hB⟩ := guard_inv hB
    refine q_iald (x := (s.f 46 (Int32.toNatClampNeg (x1 - 1)))) C hK hP 29 1 rfl rfl (vpb_in g5) dX11_begins_66 rfl ?_
    refine lv_imul hx hb dX11_begins_67 ?_
    obtain ⟨g6, hB⟩ := guard_inv hB
    obtain ⟨s7, hs8, hB⟩ := letS_inv hB
    refine q_iast (f2 := (upd (s.f 46) (Int32.toNatClampNeg x1) (6 * (s.f 46 (Int32.toNatClampNeg (x1 - 1)))))) (w2 := (mwS cB cI cJ cZ h a s7)) C hK hP hD hS 29 1 rfl rfl (vpb_in g6) dX11_begins_68 rfl (mwS_f46 hs8) (fun H locs hP hD hS => ?_)
    refine lv_iinc (v := (x1 + 1)) (lv' := [(1, .int (x1 + 1)), (0, .ref h)]) hx hb dX11_begins_69 hl (k := 1) rfl (rfl) (by decide) rfl (fun ls hl => ?_)
    refine lv_goto (tgt := 46) hx hb dX11_begins_72 (by decide) ?_
    exact hk46 _ _ hB p e s0 m below meth c A E H locs ls hP hD hS (lv_sub hl [1, 0] rfl)
theorem br_begins_46L {l : Launch} {dC : Nat → ClassId} {dI : Nat → Nat → Nat} {cB cI cJ cZ cS : ClassId} {h : Nat} {a : Nat → Nat} {as : List Value} {s' : RS} : ∀ (n : Nat) (s : RS) (x1 : Int32), r_begins_46L n s x1 = some s' → BlkV l yX11_begins wsX11_begins ({ frames := 0, cells := 0, slots := 0, locals := 0 }) cX11_begins 2 none (dC, dI) (tysA cB cI cJ cZ cS) as 46 (mwS cB cI cJ cZ h a s) [(0, .ref h), (1, .int x1)] [] (fun u => u = (mwS cB cI cJ cZ h a s')) := by
  intro n
  induction n with
  | zero => intro s x1 hB; exact none_ne hB
  | succ n ih => intro s x1 hB; exact br_begins_46 ih _ _ hB
set_option maxHeartbeats 4000000 in
set_option maxRecDepth 100000 in
theorem br_begins_30 {l : Launch} {dC : Nat → ClassId} {dI : Nat → Nat → Nat} {cB cI cJ cZ cS : ClassId} {h : Nat} {a : Nat → Nat} {as : List Value} {s' : RS} {k2 : RS → Int32 → Option RS} (hk2 : ∀ (s : RS) (x1 : Int32), k2 s x1 = some s' → BlkV l yX11_begins wsX11_begins ({ frames := 0, cells := 0, slots := 0, locals := 0 }) cX11_begins 2 none (dC, dI) (tysA cB cI cJ cZ cS) as 2 (mwS cB cI cJ cZ h a s) [(0, .ref h), (1, .int x1)] [] (fun u => u = (mwS cB cI cJ cZ h a s'))) (s : RS) (x1 : Int32) (t0 : Int32) (t1 : Int32) (hB : r_begins_30 k2 s x1 t0 t1 = some s') : BlkV l yX11_begins wsX11_begins ({ frames := 0, cells := 0, slots := 0, locals := 0 }) cX11_begins 2 none (dC, dI) (tysA cB cI cJ cZ cS) as 30 (mwS cB cI cJ cZ h a s) [(0, .ref h), (1, .int x1)] [.int t0, .int t1, .ref (a 44)] (fun u => u = (mwS cB cI cJ cZ h a s')) := by
  intro p e s0 m below meth c A E H locs ls hP hD hS hl
  obtain ⟨C, hr, hlocks, hA, hK, hN⟩ := id E
  obtain ⟨hx, hb, hml, hown, hts⟩ := id C
  unfold r_begins_30 at hB
  obtain ⟨g1, hB⟩ := guard_inv hB
  obtain ⟨s2, hs3, hB⟩ := letS_inv hB
  refine q_iast (f2 := (upd (s.f 44) (Int32.toNatClampNeg t1) t0)) (w2 := (mwS cB cI cJ cZ h a s2)) C hK hP hD hS 28 1 rfl rfl (vpb_in g1) dX11_begins_30 rfl (mwS_f44 hs3) (fun H locs hP hD hS => ?_)
  refine lv_iinc (v := (x1 + 1)) (lv' := [(1, .int (x1 + 1)), (0, .ref h)]) hx hb dX11_begins_31 hl (k := 1) rfl (rfl) (by decide) rfl (fun ls hl => ?_)
  refine lv_goto (tgt := 2) hx hb dX11_begins_34 (by decide) ?_
  exact hk2 _ _ hB p e s0 m below meth c A E H locs ls hP hD hS (lv_sub hl [1, 0] rfl)
set_option maxHeartbeats 4000000 in
set_option maxRecDepth 100000 in
theorem br_begins_29 {l : Launch} {dC : Nat → ClassId} {dI : Nat → Nat → Nat} {cB cI cJ cZ cS : ClassId} {h : Nat} {a : Nat → Nat} {as : List Value} {s' : RS} {k2 : RS → Int32 → Option RS} (hk2 : ∀ (s : RS) (x1 : Int32), k2 s x1 = some s' → BlkV l yX11_begins wsX11_begins ({ frames := 0, cells := 0, slots := 0, locals := 0 }) cX11_begins 2 none (dC, dI) (tysA cB cI cJ cZ cS) as 2 (mwS cB cI cJ cZ h a s) [(0, .ref h), (1, .int x1)] [] (fun u => u = (mwS cB cI cJ cZ h a s'))) (s : RS) (x1 : Int32) (t0 : Int32) (hB : r_begins_29 k2 s x1 t0 = some s') : BlkV l yX11_begins wsX11_begins ({ frames := 0, cells := 0, slots := 0, locals := 0 }) cX11_begins 2 none (dC, dI) (tysA cB cI cJ cZ cS) as 29 (mwS cB cI cJ cZ h a s) [(0, .ref h), (1, .int x1)] [.int t0, .ref (a 44)] (fun u => u = (mwS cB cI cJ cZ h a s')) := by
  intro p e s0 m below meth c A E H locs ls hP hD hS hl
  obtain ⟨C, hr, hlocks, hA, hK, hN⟩ := id E
  obtain ⟨hx, hb, hml, hown, hts⟩ := id C
  unfold r_begins_29 at hB
  refine lv_iconst (v := 0) hx hb dX11_begins_29 (by decide) ?_
  exact br_begins_30 (hk2) _ _ _ _ hB p e s0 m below meth c A E H locs ls hP hD hS (lv_sub hl [0, 1] rfl)
set_option maxHeartbeats 4000000 in
set_option maxRecDepth 100000 in
theorem br_begins_2 {l : Launch} {dC : Nat → ClassId} {dI : Nat → Nat → Nat} {cB cI cJ cZ cS : ClassId} {h : Nat} {a : Nat → Nat} {as : List Value} {s' : RS} {k2 : RS → Int32 → Option RS} (hk2 : ∀ (s : RS) (x1 : Int32), k2 s x1 = some s' → BlkV l yX11_begins wsX11_begins ({ frames := 0, cells := 0, slots := 0, locals := 0 }) cX11_begins 2 none (dC, dI) (tysA cB cI cJ cZ cS) as 2 (mwS cB cI cJ cZ h a s) [(0, .ref h), (1, .int x1)] [] (fun u => u = (mwS cB cI cJ cZ h a s'))) (s : RS) (x1 : Int32) (hB : r_begins_2 k2 s x1 = some s') : BlkV l yX11_begins wsX11_begins ({ frames := 0, cells := 0, slots := 0, locals := 0 }) cX11_begins 2 none (dC, dI) (tysA cB cI cJ cZ cS) as 2 (mwS cB cI cJ cZ h a s) [(0, .ref h), (1, .int x1)] [] (fun u => u = (mwS cB cI cJ cZ h a s')) := by
  intro p e s0 m below meth c A E H locs ls hP hD hS hl
  obtain ⟨C, hr, hlocks, hA, hK, hN⟩ := id E
  obtain ⟨hx, hb, hml, hown, hts⟩ := id C
  unfold r_begins_2 at hB
  refine lv_iload_n hx hb dX11_begins_2 rfl (lv_at hl 1 rfl) ?_
  refine lv_bipush (v := 29) hx hb dX11_begins_3 (by decide) ?_
  refine lv_icmp_ge (tgt := 37) hx hb dX11_begins_5 (by decide) (fun c1 => ?_) (fun c1 => ?_)
  · have hB := if_p hB c1
    refine lv_aload_n hx hb dX11_begins_37 rfl (lv_at hl 0 rfl) ?_
    refine q_get (v := .ref (a 46)) C inX11_begins_X11 hK hP 0 rfl rfl 46 (by decide) rfl LX11_begins_104 rfl dX11_begins_38 ?_
    refine lv_iconst (v := 0) hx hb dX11_begins_41 (by decide) ?_
    refine lv_iconst (v := 1) hx hb dX11_begins_42 (by decide) ?_
    obtain ⟨s2, hs3, hB⟩ := letS_inv hB
    refine q_iast (f2 := (upd (s.f 46) 0 1)) (w2 := (mwS cB cI cJ cZ h a s2)) C hK hP hD hS 29 1 rfl rfl (vp_lit (by decide +kernel)) dX11_begins_43 rfl (mwS_f46 hs3) (fun H locs hP hD hS => ?_)
    refine lv_iconst (v := 1) hx hb dX11_begins_44 (by decide) ?_
    refine lv_istore_n (lv' := [(1, .int 1), (0, .ref h)]) hx hb dX11_begins_45 rfl hl (by decide) rfl (fun ls hl => ?_)
    exact br_begins_46L fu _ _ hB p e s0 m below meth c A E H locs ls hP hD hS (lv_sub hl [1, 0] rfl)
  · have hB := if_n hB c1
    refine lv_aload_n hx hb dX11_begins_8 rfl (lv_at hl 0 rfl) ?_
    refine q_get (v := .ref (a 44)) C inX11_begins_X11 hK hP 0 rfl rfl 44 (by decide) rfl LX11_begins_101 rfl dX11_begins_9 ?_
    refine lv_iload_n hx hb dX11_begins_12 rfl (lv_at hl 1 rfl) ?_
    refine lv_iload_n hx hb dX11_begins_13 rfl (lv_at hl 1 rfl) ?_
    refine lv_iconst (v := 5) hx hb dX11_begins_14 (by decide) ?_
    refine lv_icmp_lt (tgt := 29) hx hb dX11_begins_15 (by decide) (fun c4 => ?_) (fun c4 => ?_)
    · have hB := if_p hB c4
      exact br_begins_29 (hk2) _ _ _ hB p e s0 m below meth c A E H locs ls hP hD hS (lv_sub hl [0, 1] rfl)
    · have hB := if_n hB c4
      refine lv_iload_n hx hb dX11_begins_18 rfl (lv_at hl 1 rfl) ?_
      refine lv_bipush (v := 10) hx hb dX11_begins_19 (by decide) ?_
      refine lv_icmp_ge (tgt := 29) hx hb dX11_begins_21 (by decide) (fun c5 => ?_) (fun c5 => ?_)
      · have hB := if_p hB c5
        exact br_begins_29 (hk2) _ _ _ hB p e s0 m below meth c A E H locs ls hP hD hS (lv_sub hl [0, 1] rfl)
      · have hB := if_n hB c5
        refine lv_bipush (v := (-2)) hx hb dX11_begins_24 (by decide) ?_
        refine lv_goto (tgt := 30) hx hb dX11_begins_26 (by decide) ?_
        exact br_begins_30 (hk2) _ _ _ _ hB p e s0 m below meth c A E H locs ls hP hD hS (lv_sub hl [0, 1] rfl)
theorem br_begins_2L {l : Launch} {dC : Nat → ClassId} {dI : Nat → Nat → Nat} {cB cI cJ cZ cS : ClassId} {h : Nat} {a : Nat → Nat} {as : List Value} {s' : RS} : ∀ (n : Nat) (s : RS) (x1 : Int32), r_begins_2L n s x1 = some s' → BlkV l yX11_begins wsX11_begins ({ frames := 0, cells := 0, slots := 0, locals := 0 }) cX11_begins 2 none (dC, dI) (tysA cB cI cJ cZ cS) as 2 (mwS cB cI cJ cZ h a s) [(0, .ref h), (1, .int x1)] [] (fun u => u = (mwS cB cI cJ cZ h a s')) := by
  intro n
  induction n with
  | zero => intro s x1 hB; exact none_ne hB
  | succ n ih => intro s x1 hB; exact br_begins_2 ih _ _ hB
set_option maxHeartbeats 4000000 in
set_option maxRecDepth 100000 in
theorem br_begins {l : Launch} {dC : Nat → ClassId} {dI : Nat → Nat → Nat} {cB cI cJ cZ cS : ClassId} {h : Nat} {a : Nat → Nat} {as : List Value} {s' : RS} (s : RS) (hB : r_begins s = some s') : BlkV l yX11_begins wsX11_begins ({ frames := 0, cells := 0, slots := 0, locals := 0 }) cX11_begins 2 none (dC, dI) (tysA cB cI cJ cZ cS) as 0 (mwS cB cI cJ cZ h a s) [(0, .ref h)] [] (fun u => u = (mwS cB cI cJ cZ h a s')) := by
  intro p e s0 m below meth c A E H locs ls hP hD hS hl
  obtain ⟨C, hr, hlocks, hA, hK, hN⟩ := id E
  obtain ⟨hx, hb, hml, hown, hts⟩ := id C
  unfold r_begins at hB
  refine lv_iconst (v := 0) hx hb dX11_begins_0 (by decide) ?_
  refine lv_istore_n (lv' := [(1, .int 0), (0, .ref h)]) hx hb dX11_begins_1 rfl hl (by decide) rfl (fun ls hl => ?_)
  exact br_begins_2L fu _ _ hB p e s0 m below meth c A E H locs ls hP hD hS (lv_sub hl [1, 0] rfl)
theorem cr_begins {l : Launch} {dC : Nat → ClassId} {dI : Nat → Nat → Nat} {cB cI cJ cZ cS : ClassId} {h : Nat} {a : Nat → Nat} {s' : RS} {s : RS} (hB : r_begins s = some s') : CV l yX11_begins wsX11_begins ({ frames := 0, cells := 0, slots := 0, locals := 0 }) (dC, dI) (tysA cB cI cJ cZ cS) (mwS cB cI cJ cZ h a s) [.ref h] (fun u => u = (mwS cB cI cJ cZ h a s')) :=
  CV_of (cc := cX11_begins) (maxL := 2) (ret := none) (by decide) rfl (Nat.le_of_ble_eq_true rfl) (br_begins _ hB)
end
