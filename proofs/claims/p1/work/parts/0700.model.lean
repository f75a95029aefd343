theorem dX11_byteAt_0 : decode cX11_byteAt 0 = .ok (.iload_n 1, 1) := by decide +kernel
theorem dX11_byteAt_1 : decode cX11_byteAt 1 = .ok (.aload_n 0, 1) := by decide +kernel
theorem dX11_byteAt_2 : decode cX11_byteAt 2 = .ok (.getfield 154, 3) := by decide +kernel
theorem dX11_byteAt_5 : decode cX11_byteAt 5 = .ok (.if_icmp .ge 16, 3) := by decide +kernel
theorem dX11_byteAt_21 : decode cX11_byteAt 21 = .ok (.iconst 0, 1) := by decide +kernel
theorem dX11_byteAt_22 : decode cX11_byteAt 22 = .ok (.ireturn, 1) := by decide +kernel
theorem dX11_token_0 : decode cX11_token 0 = .ok (.aload_n 0, 1) := by decide +kernel
theorem dX11_token_1 : decode cX11_token 1 = .ok (.getfield 20, 3) := by decide +kernel
theorem dX11_token_4 : decode cX11_token 4 = .ok (.aload_n 0, 1) := by decide +kernel
theorem dX11_token_5 : decode cX11_token 5 = .ok (.getfield 163, 3) := by decide +kernel
theorem dX11_token_8 : decode cX11_token 8 = .ok (.iload_n 1, 1) := by decide +kernel
theorem dX11_token_9 : decode cX11_token 9 = .ok (.iastore, 1) := by decide +kernel
theorem dX11_token_10 : decode cX11_token 10 = .ok (.aload_n 0, 1) := by decide +kernel
theorem dX11_token_11 : decode cX11_token 11 = .ok (.getfield 24, 3) := by decide +kernel
theorem dX11_token_14 : decode cX11_token 14 = .ok (.aload_n 0, 1) := by decide +kernel
theorem dX11_token_15 : decode cX11_token 15 = .ok (.getfield 163, 3) := by decide +kernel
theorem dX11_token_18 : decode cX11_token 18 = .ok (.iload_n 2, 1) := by decide +kernel
theorem dX11_token_19 : decode cX11_token 19 = .ok (.iastore, 1) := by decide +kernel
theorem dX11_token_20 : decode cX11_token 20 = .ok (.aload_n 0, 1) := by decide +kernel
theorem dX11_token_21 : decode cX11_token 21 = .ok (.getfield 27, 3) := by decide +kernel
theorem dX11_token_24 : decode cX11_token 24 = .ok (.aload_n 0, 1) := by decide +kernel
theorem dX11_token_25 : decode cX11_token 25 = .ok (.getfield 163, 3) := by decide +kernel
theorem dX11_token_28 : decode cX11_token 28 = .ok (.iload_n 3, 1) := by decide +kernel
theorem dX11_token_29 : decode cX11_token 29 = .ok (.iastore, 1) := by decide +kernel
theorem dX11_token_30 : decode cX11_token 30 = .ok (.aload_n 0, 1) := by decide +kernel
theorem dX11_token_31 : decode cX11_token 31 = .ok (.getfield 30, 3) := by decide +kernel
theorem dX11_token_34 : decode cX11_token 34 = .ok (.aload_n 0, 1) := by decide +kernel
theorem dX11_token_35 : decode cX11_token 35 = .ok (.getfield 163, 3) := by decide +kernel
theorem dX11_token_38 : decode cX11_token 38 = .ok (.lload 4, 2) := by decide +kernel
theorem dX11_token_40 : decode cX11_token 40 = .ok (.lastore, 1) := by decide +kernel
theorem dX11_token_41 : decode cX11_token 41 = .ok (.aload_n 0, 1) := by decide +kernel
theorem dX11_token_42 : decode cX11_token 42 = .ok (.dup, 1) := by decide +kernel
theorem dX11_token_43 : decode cX11_token 43 = .ok (.getfield 163, 3) := by decide +kernel
theorem dX11_token_46 : decode cX11_token 46 = .ok (.iconst 1, 1) := by decide +kernel
theorem dX11_token_47 : decode cX11_token 47 = .ok (.iadd, 1) := by decide +kernel
theorem dX11_token_48 : decode cX11_token 48 = .ok (.putfield 163, 3) := by decide +kernel
theorem dX11_token_51 : decode cX11_token 51 = .ok (.return_, 1) := by decide +kernel
set_option maxRecDepth 20000 in
theorem ggX11_cut_X11_byteAt : GoodIn wsX11_cut wsX11_byteAt := goodIn_r _ [8, 2, 9, 32, 33, 34, 35, 36, 37, 38, 39, 40, 41, 42, 43, 44, 45, 46, 47, 48, 49, 50, 51, 52, 53, 54, 55, 56, 57, 58, 59, 60, 61, 62, 63, 64, 65, 66, 67, 68, 69, 70, 71, 72, 73, 74, 75, 76, 77, 78, 79, 80, 81, 82, 83, 84, 85, 86, 87, 88, 89] (by decide +kernel) (by decide +kernel)
set_option maxRecDepth 20000 in
theorem gX11_cut_X11_byteAt : GoodIn wsX11_cut (wsV RX11 166 RX11 yX11_byteAt wsX11_byteAt) := goodIn_app (goodIn_of _ (by decide +kernel)) ggX11_cut_X11_byteAt
set_option maxRecDepth 20000 in
theorem ggX11_cut_X11_token : GoodIn wsX11_cut wsX11_token := goodIn_r _ [13, 14, 1, 15, 16, 17, 32, 33, 34, 35, 36, 37, 38, 39, 40, 41, 42, 43, 44, 45, 46, 47, 48, 49, 50, 51, 52, 53, 54, 55, 56, 57, 58, 59, 60, 61, 62, 63, 64, 65, 66, 67, 68, 69, 70, 71, 72, 73, 74, 75, 76, 77, 78, 79, 80, 81, 82, 83, 84, 85, 86, 87, 88, 89] (by decide +kernel) (by decide +kernel)
set_option maxRecDepth 20000 in
theorem gX11_cut_X11_token : GoodIn wsX11_cut (wsV RX11 170 RX11 yX11_token wsX11_token) := goodIn_app (goodIn_of _ (by decide +kernel)) ggX11_cut_X11_token
theorem dX11_cut_0 : decode cX11_cut 0 = .ok (.aload_n 0, 1) := by decide +kernel
theorem dX11_cut_1 : decode cX11_cut 1 = .ok (.iconst 0, 1) := by decide +kernel
theorem dX11_cut_2 : decode cX11_cut 2 = .ok (.putfield 163, 3) := by decide +kernel
theorem dX11_cut_5 : decode cX11_cut 5 = .ok (.iconst 0, 1) := by decide +kernel
theorem dX11_cut_6 : decode cX11_cut 6 = .ok (.istore_n 1, 1) := by decide +kernel
theorem dX11_cut_7 : decode cX11_cut 7 = .ok (.aload_n 0, 1) := by decide +kernel
theorem dX11_cut_8 : decode cX11_cut 8 = .ok (.getfield 163, 3) := by decide +kernel
theorem dX11_cut_11 : decode cX11_cut 11 = .ok (.sipush 400, 3) := by decide +kernel
theorem dX11_cut_14 : decode cX11_cut 14 = .ok (.if_icmp .gt 280, 3) := by decide +kernel
theorem dX11_cut_17 : decode cX11_cut 17 = .ok (.aload_n 0, 1) := by decide +kernel
theorem dX11_cut_18 : decode cX11_cut 18 = .ok (.iload_n 1, 1) := by decide +kernel
theorem dX11_cut_19 : decode cX11_cut 19 = .ok (.invokevirtual 166, 3) := by decide +kernel
theorem dX11_cut_22 : decode cX11_cut 22 = .ok (.istore_n 2, 1) := by decide +kernel
theorem dX11_cut_23 : decode cX11_cut 23 = .ok (.iload_n 1, 1) := by decide +kernel
theorem dX11_cut_24 : decode cX11_cut 24 = .ok (.aload_n 0, 1) := by decide +kernel
theorem dX11_cut_25 : decode cX11_cut 25 = .ok (.getfield 154, 3) := by decide +kernel
theorem dX11_cut_28 : decode cX11_cut 28 = .ok (.if_icmp .lt 15, 3) := by decide +kernel
theorem dX11_cut_31 : decode cX11_cut 31 = .ok (.aload_n 0, 1) := by decide +kernel
theorem dX11_cut_32 : decode cX11_cut 32 = .ok (.iconst 0, 1) := by decide +kernel
theorem dX11_cut_33 : decode cX11_cut 33 = .ok (.aload_n 0, 1) := by decide +kernel
theorem dX11_cut_34 : decode cX11_cut 34 = .ok (.getfield 154, 3) := by decide +kernel
theorem dX11_cut_37 : decode cX11_cut 37 = .ok (.iconst 0, 1) := by decide +kernel
theorem dX11_cut_38 : decode cX11_cut 38 = .ok (.lconst 0, 1) := by decide +kernel
theorem dX11_cut_39 : decode cX11_cut 39 = .ok (.invokevirtual 170, 3) := by decide +kernel
theorem dX11_cut_42 : decode cX11_cut 42 = .ok (.return_, 1) := by decide +kernel
theorem dX11_is_0 : decode cX11_is 0 = .ok (.aload_n 0, 1) := by decide +kernel
theorem dX11_is_1 : decode cX11_is 1 = .ok (.getfield 185, 3) := by decide +kernel
theorem dX11_is_4 : decode cX11_is 4 = .ok (.ifCond .ne 20, 3) := by decide +kernel
theorem dX11_is_7 : decode cX11_is 7 = .ok (.aload_n 0, 1) := by decide +kernel
theorem dX11_is_8 : decode cX11_is 8 = .ok (.getfield 20, 3) := by decide +kernel
theorem dX11_is_11 : decode cX11_is 11 = .ok (.aload_n 0, 1) := by decide +kernel
theorem dX11_is_12 : decode cX11_is 12 = .ok (.getfield 188, 3) := by decide +kernel
theorem dX11_is_15 : decode cX11_is 15 = .ok (.iaload, 1) := by decide +kernel
theorem dX11_is_16 : decode cX11_is 16 = .ok (.iload_n 1, 1) := by decide +kernel
theorem dX11_is_17 : decode cX11_is 17 = .ok (.if_icmp .ne 7, 3) := by decide +kernel
theorem dX11_is_20 : decode cX11_is 20 = .ok (.iconst 1, 1) := by decide +kernel
theorem dX11_is_21 : decode cX11_is 21 = .ok (.goto 4, 3) := by decide +kernel
theorem dX11_is_25 : decode cX11_is 25 = .ok (.ireturn, 1) := by decide +kernel
theorem dX11_plain_0 : decode cX11_plain 0 = .ok (.aload_n 0, 1) := by decide +kernel
theorem dX11_plain_1 : decode cX11_plain 1 = .ok (.getfield 40, 3) := by decide +kernel
theorem dX11_plain_4 : decode cX11_plain 4 = .ok (.iload_n 1, 1) := by decide +kernel
theorem dX11_plain_5 : decode cX11_plain 5 = .ok (.iconst 0, 1) := by decide +kernel
theorem dX11_plain_6 : decode cX11_plain 6 = .ok (.iastore, 1) := by decide +kernel
theorem dX11_plain_7 : decode cX11_plain 7 = .ok (.aload_n 0, 1) := by decide +kernel
theorem dX11_plain_8 : decode cX11_plain 8 = .ok (.getfield 49, 3) := by decide +kernel
theorem dX11_plain_11 : decode cX11_plain 11 = .ok (.iload_n 1, 1) := by decide +kernel
theorem dX11_plain_12 : decode cX11_plain 12 = .ok (.iconst 0, 1) := by decide +kernel
theorem dX11_plain_13 : decode cX11_plain 13 = .ok (.iastore, 1) := by decide +kernel
theorem dX11_plain_14 : decode cX11_plain 14 = .ok (.aload_n 0, 1) := by decide +kernel
theorem dX11_plain_15 : decode cX11_plain 15 = .ok (.getfield 58, 3) := by decide +kernel
theorem dX11_plain_18 : decode cX11_plain 18 = .ok (.iload_n 1, 1) := by decide +kernel
theorem dX11_plain_19 : decode cX11_plain 19 = .ok (.iconst 0, 1) := by decide +kernel
theorem dX11_plain_20 : decode cX11_plain 20 = .ok (.iastore, 1) := by decide +kernel
theorem dX11_plain_21 : decode cX11_plain 21 = .ok (.iconst 0, 1) := by decide +kernel
theorem dX11_plain_22 : decode cX11_plain 22 = .ok (.istore_n 2, 1) := by decide +kernel
theorem dX11_plain_23 : decode cX11_plain 23 = .ok (.iload_n 2, 1) := by decide +kernel
theorem dX11_plain_24 : decode cX11_plain 24 = .ok (.iconst 4, 1) := by decide +kernel
theorem dX11_plain_25 : decode cX11_plain 25 = .ok (.if_icmp .ge 31, 3) := by decide +kernel
theorem dX11_plain_28 : decode cX11_plain 28 = .ok (.aload_n 0, 1) := by decide +kernel
theorem dX11_plain_29 : decode cX11_plain 29 = .ok (.getfield 61, 3) := by decide +kernel
theorem dX11_plain_32 : decode cX11_plain 32 = .ok (.iconst 4, 1) := by decide +kernel
theorem dX11_plain_33 : decode cX11_plain 33 = .ok (.iload_n 1, 1) := by decide +kernel
theorem dX11_plain_34 : decode cX11_plain 34 = .ok (.imul, 1) := by decide +kernel
theorem dX11_plain_35 : decode cX11_plain 35 = .ok (.iload_n 2, 1) := by decide +kernel
theorem dX11_plain_36 : decode cX11_plain 36 = .ok (.iadd, 1) := by decide +kernel
theorem dX11_plain_37 : decode cX11_plain 37 = .ok (.iconst 0, 1) := by decide +kernel
theorem dX11_plain_38 : decode cX11_plain 38 = .ok (.iastore, 1) := by decide +kernel
theorem dX11_plain_39 : decode cX11_plain 39 = .ok (.aload_n 0, 1) := by decide +kernel
theorem dX11_plain_40 : decode cX11_plain 40 = .ok (.getfield 64, 3) := by decide +kernel
theorem dX11_plain_43 : decode cX11_plain 43 = .ok (.iconst 4, 1) := by decide +kernel
theorem dX11_plain_44 : decode cX11_plain 44 = .ok (.iload_n 1, 1) := by decide +kernel
theorem dX11_plain_45 : decode cX11_plain 45 = .ok (.imul, 1) := by decide +kernel
theorem dX11_plain_46 : decode cX11_plain 46 = .ok (.iload_n 2, 1) := by decide +kernel
theorem dX11_plain_47 : decode cX11_plain 47 = .ok (.iadd, 1) := by decide +kernel
theorem dX11_plain_48 : decode cX11_plain 48 = .ok (.iconst 0, 1) := by decide +kernel
theorem dX11_plain_49 : decode cX11_plain 49 = .ok (.iastore, 1) := by decide +kernel
theorem dX11_plain_50 : decode cX11_plain 50 = .ok (.iinc 2 1, 3) := by decide +kernel
theorem dX11_plain_53 : decode cX11_plain 53 = .ok (.goto (-30), 3) := by decide +kernel
theorem dX11_plain_56 : decode cX11_plain 56 = .ok (.return_, 1) := by decide +kernel
theorem dX11_keepsRow_0 : decode cX11_keepsRow 0 = .ok (.iconst 0, 1) := by decide +kernel
theorem dX11_keepsRow_1 : decode cX11_keepsRow 1 = .ok (.istore_n 1, 1) := by decide +kernel
theorem dX11_keepsRow_2 : decode cX11_keepsRow 2 = .ok (.iload_n 1, 1) := by decide +kernel
theorem dX11_keepsRow_3 : decode cX11_keepsRow 3 = .ok (.bipush 29, 2) := by decide +kernel
theorem dX11_keepsRow_5 : decode cX11_keepsRow 5 = .ok (.if_icmp .ge 21, 3) := by decide +kernel
theorem dX11_keepsRow_8 : decode cX11_keepsRow 8 = .ok (.aload_n 0, 1) := by decide +kernel
theorem dX11_keepsRow_9 : decode cX11_keepsRow 9 = .ok (.getfield 98, 3) := by decide +kernel
theorem dX11_keepsRow_12 : decode cX11_keepsRow 12 = .ok (.iload_n 1, 1) := by decide +kernel
theorem dX11_keepsRow_13 : decode cX11_keepsRow 13 = .ok (.aload_n 0, 1) := by decide +kernel
theorem dX11_keepsRow_14 : decode cX11_keepsRow 14 = .ok (.getfield 101, 3) := by decide +kernel
theorem dX11_keepsRow_17 : decode cX11_keepsRow 17 = .ok (.iload_n 1, 1) := by decide +kernel
theorem dX11_keepsRow_18 : decode cX11_keepsRow 18 = .ok (.iaload, 1) := by decide +kernel
theorem dX11_keepsRow_19 : decode cX11_keepsRow 19 = .ok (.iastore, 1) := by decide +kernel
theorem dX11_keepsRow_20 : decode cX11_keepsRow 20 = .ok (.iinc 1 1, 3) := by decide +kernel
theorem dX11_keepsRow_23 : decode cX11_keepsRow 23 = .ok (.goto (-21), 3) := by decide +kernel
theorem dX11_keepsRow_26 : decode cX11_keepsRow 26 = .ok (.return_, 1) := by decide +kernel
theorem dX11_yearGoes_0 : decode cX11_yearGoes 0 = .ok (.iconst 0, 1) := by decide +kernel
theorem dX11_yearGoes_1 : decode cX11_yearGoes 1 = .ok (.istore_n 1, 1) := by decide +kernel
theorem dX11_yearGoes_2 : decode cX11_yearGoes 2 = .ok (.iload_n 1, 1) := by decide +kernel
theorem dX11_yearGoes_3 : decode cX11_yearGoes 3 = .ok (.aload_n 0, 1) := by decide +kernel
theorem dX11_yearGoes_4 : decode cX11_yearGoes 4 = .ok (.getfield 40, 3) := by decide +kernel
theorem dX11_yearGoes_7 : decode cX11_yearGoes 7 = .ok (.aload_n 0, 1) := by decide +kernel
theorem dX11_yearGoes_8 : decode cX11_yearGoes 8 = .ok (.getfield 215, 3) := by decide +kernel
theorem dX11_yearGoes_11 : decode cX11_yearGoes 11 = .ok (.iaload, 1) := by decide +kernel
theorem dX11_yearGoes_12 : decode cX11_yearGoes 12 = .ok (.if_icmp .ge 50, 3) := by decide +kernel
theorem dX11_yearGoes_62 : decode cX11_yearGoes 62 = .ok (.iconst 0, 1) := by decide +kernel
theorem dX11_yearGoes_63 : decode cX11_yearGoes 63 = .ok (.istore_n 1, 1) := by decide +kernel
theorem dX11_yearGoes_64 : decode cX11_yearGoes 64 = .ok (.iload_n 1, 1) := by decide +kernel
theorem dX11_yearGoes_65 : decode cX11_yearGoes 65 = .ok (.aload_n 0, 1) := by decide +kernel
theorem dX11_yearGoes_66 : decode cX11_yearGoes 66 = .ok (.getfield 40, 3) := by decide +kernel
theorem dX11_yearGoes_69 : decode cX11_yearGoes 69 = .ok (.aload_n 0, 1) := by decide +kernel
theorem dX11_yearGoes_70 : decode cX11_yearGoes 70 = .ok (.getfield 215, 3) := by decide +kernel
theorem dX11_yearGoes_73 : decode cX11_yearGoes 73 = .ok (.iaload, 1) := by decide +kernel
theorem dX11_yearGoes_74 : decode cX11_yearGoes 74 = .ok (.if_icmp .ge 51, 3) := by decide +kernel
theorem dX11_yearGoes_125 : decode cX11_yearGoes 125 = .ok (.aload_n 0, 1) := by decide +kernel
theorem dX11_yearGoes_126 : decode cX11_yearGoes 126 = .ok (.getfield 101, 3) := by decide +kernel
theorem dX11_yearGoes_129 : decode cX11_yearGoes 129 = .ok (.bipush 27, 2) := by decide +kernel
theorem dX11_yearGoes_131 : decode cX11_yearGoes 131 = .ok (.dup2, 1) := by decide +kernel
theorem dX11_yearGoes_132 : decode cX11_yearGoes 132 = .ok (.iaload, 1) := by decide +kernel
theorem dX11_yearGoes_133 : decode cX11_yearGoes 133 = .ok (.iconst 1, 1) := by decide +kernel
theorem dX11_yearGoes_134 : decode cX11_yearGoes 134 = .ok (.iadd, 1) := by decide +kernel
theorem dX11_yearGoes_135 : decode cX11_yearGoes 135 = .ok (.iastore, 1) := by decide +kernel
theorem dX11_yearGoes_136 : decode cX11_yearGoes 136 = .ok (.return_, 1) := by decide +kernel
set_option maxRecDepth 20000 in
theorem ggX11_yearsGo_X11_yearGoes : GoodIn wsX11_yearsGo wsX11_yearGoes := goodIn_r _ [5, 6, 7, 8, 9, 10, 11, 12, 13, 4, 14, 15, 16, 17, 18, 19, 20, 21, 22, 23, 24, 25, 26, 27, 28, 29, 30, 31, 32, 33, 34, 35, 36, 37, 38, 39, 40, 41, 42, 43, 44, 45, 46, 47, 48, 49, 50, 51, 52, 53, 54, 55, 56, 57, 58, 59, 60, 61, 62, 63, 64, 65, 66, 67, 68, 69, 70, 71, 72, 73, 74, 75, 76, 77, 78, 79, 80, 81, 82, 83, 84, 85, 86, 87, 88, 89, 90, 91, 92, 93, 94, 95, 96, 97, 98, 99, 100, 101, 102, 103, 104, 105, 106, 107, 108, 109, 110, 111, 112, 113, 114, 115, 116, 117, 118, 119, 120, 121, 122, 123, 124, 125, 126] (by decide +kernel) (by decide +kernel)
set_option maxRecDepth 20000 in
theorem gX11_yearsGo_X11_yearGoes : GoodIn wsX11_yearsGo (wsV RX11 346 RX11 yX11_yearGoes wsX11_yearGoes) := goodIn_app (goodIn_of _ (by decide +kernel)) ggX11_yearsGo_X11_yearGoes
theorem dX11_yearsGo_0 : decode cX11_yearsGo 0 = .ok (.iconst 0, 1) := by decide +kernel
theorem dX11_yearsGo_1 : decode cX11_yearsGo 1 = .ok (.istore_n 2, 1) := by decide +kernel
theorem dX11_yearsGo_2 : decode cX11_yearsGo 2 = .ok (.iload_n 2, 1) := by decide +kernel
theorem dX11_yearsGo_3 : decode cX11_yearsGo 3 = .ok (.iload_n 1, 1) := by decide +kernel
theorem dX11_yearsGo_4 : decode cX11_yearsGo 4 = .ok (.if_icmp .ge 13, 3) := by decide +kernel
theorem dX11_yearsGo_7 : decode cX11_yearsGo 7 = .ok (.aload_n 0, 1) := by decide +kernel
theorem dX11_yearsGo_8 : decode cX11_yearsGo 8 = .ok (.invokevirtual 346, 3) := by decide +kernel
theorem dX11_yearsGo_11 : decode cX11_yearsGo 11 = .ok (.iinc 2 1, 3) := by decide +kernel
theorem dX11_yearsGo_14 : decode cX11_yearsGo 14 = .ok (.goto (-12), 3) := by decide +kernel
theorem dX11_yearsGo_17 : decode cX11_yearsGo 17 = .ok (.return_, 1) := by decide +kernel
set_option maxRecDepth 20000 in
theorem ggX11_records_X11_keepsRow : GoodIn wsX11_records wsX11_keepsRow := goodIn_r _ [8, 3, 9, 10, 11, 12, 13, 14, 15, 16, 17, 18, 19, 20, 21, 22, 23, 24, 25, 26, 27, 28, 29, 30, 31, 32, 33, 34, 35, 36, 37, 38, 39, 40, 41, 42, 43, 44, 45, 46, 47, 48, 49, 50, 51, 52, 53, 54, 55, 56, 57, 58, 59, 60, 61, 62, 63, 64, 65, 66, 67] (by decide +kernel) (by decide +kernel)
set_option maxRecDepth 20000 in
theorem gX11_records_X11_keepsRow : GoodIn wsX11_records (wsV RX11 145 RX11 yX11_keepsRow wsX11_keepsRow) := goodIn_app (goodIn_of _ (by decide +kernel)) ggX11_records_X11_keepsRow
theorem dX11_records_0 : decode cX11_records 0 = .ok (.aload_n 0, 1) := by decide +kernel
theorem dX11_records_1 : decode cX11_records 1 = .ok (.getfield 230, 3) := by decide +kernel
theorem dX11_records_4 : decode cX11_records 4 = .ok (.bipush 40, 2) := by decide +kernel
theorem dX11_records_6 : decode cX11_records 6 = .ok (.if_icmp .ne 43, 3) := by decide +kernel
theorem dX11_records_49 : decode cX11_records 49 = .ok (.iconst 0, 1) := by decide +kernel
theorem dX11_records_50 : decode cX11_records 50 = .ok (.istore_n 1, 1) := by decide +kernel
theorem dX11_records_51 : decode cX11_records 51 = .ok (.iload_n 1, 1) := by decide +kernel
theorem dX11_records_52 : decode cX11_records 52 = .ok (.bipush 29, 2) := by decide +kernel
theorem dX11_records_54 : decode cX11_records 54 = .ok (.if_icmp .ge 29, 3) := by decide +kernel
theorem dX11_records_57 : decode cX11_records 57 = .ok (.aload_n 0, 1) := by decide +kernel
theorem dX11_records_58 : decode cX11_records 58 = .ok (.getfield 110, 3) := by decide +kernel
theorem dX11_records_61 : decode cX11_records 61 = .ok (.bipush 29, 2) := by decide +kernel
theorem dX11_records_63 : decode cX11_records 63 = .ok (.aload_n 0, 1) := by decide +kernel
theorem dX11_records_64 : decode cX11_records 64 = .ok (.getfield 230, 3) := by decide +kernel
theorem dX11_records_67 : decode cX11_records 67 = .ok (.imul, 1) := by decide +kernel
theorem dX11_records_68 : decode cX11_records 68 = .ok (.iload_n 1, 1) := by decide +kernel
theorem dX11_records_69 : decode cX11_records 69 = .ok (.iadd, 1) := by decide +kernel
theorem dX11_records_70 : decode cX11_records 70 = .ok (.aload_n 0, 1) := by decide +kernel
theorem dX11_records_71 : decode cX11_records 71 = .ok (.getfield 98, 3) := by decide +kernel
theorem dX11_records_74 : decode cX11_records 74 = .ok (.iload_n 1, 1) := by decide +kernel
theorem dX11_records_75 : decode cX11_records 75 = .ok (.iaload, 1) := by decide +kernel
theorem dX11_records_76 : decode cX11_records 76 = .ok (.iastore, 1) := by decide +kernel
theorem dX11_records_77 : decode cX11_records 77 = .ok (.iinc 1 1, 3) := by decide +kernel
theorem dX11_records_80 : decode cX11_records 80 = .ok (.goto (-29), 3) := by decide +kernel
theorem dX11_records_83 : decode cX11_records 83 = .ok (.aload_n 0, 1) := by decide +kernel
theorem dX11_records_84 : decode cX11_records 84 = .ok (.dup, 1) := by decide +kernel
theorem dX11_records_85 : decode cX11_records 85 = .ok (.getfield 230, 3) := by decide +kernel
theorem dX11_records_88 : decode cX11_records 88 = .ok (.iconst 1, 1) := by decide +kernel
theorem dX11_records_89 : decode cX11_records 89 = .ok (.iadd, 1) := by decide +kernel
theorem dX11_records_90 : decode cX11_records 90 = .ok (.putfield 230, 3) := by decide +kernel
theorem dX11_records_93 : decode cX11_records 93 = .ok (.aload_n 0, 1) := by decide +kernel
theorem dX11_records_94 : decode cX11_records 94 = .ok (.invokevirtual 145, 3) := by decide +kernel
theorem dX11_records_97 : decode cX11_records 97 = .ok (.return_, 1) := by decide +kernel
set_option maxRecDepth 20000 in
theorem ggX11_years_X11_isLong : GoodIn wsX11_years wsX11_isLong := goodIn_r _ [5, 6, 7, 4, 8] (by decide +kernel) (by decide +kernel)
set_option maxRecDepth 20000 in
theorem gX11_years_X11_isLong : GoodIn wsX11_years (va_wsS RX11 379 yX11_isLong wsX11_isLong) := goodIn_app (goodIn_of _ (by decide +kernel)) ggX11_years_X11_isLong
set_option maxRecDepth 20000 in
theorem ggX11_years_X11_copies : GoodIn wsX11_years wsX11_copies := goodIn_r _ [12, 13, 1, 14, 15, 16, 95, 96, 97, 98, 99, 100, 101, 102, 103, 104, 105, 106, 107, 108, 109, 110, 111, 112, 113, 114, 115, 116, 117, 118, 119, 120, 121, 122, 123, 124, 125, 126, 127, 128, 129, 130, 131, 132, 133, 134, 135, 136, 137, 138, 139, 140, 141, 142, 143, 144, 145, 146, 147, 148, 149, 150, 151, 152] (by decide +kernel) (by decide +kernel)
set_option maxRecDepth 20000 in
theorem gX11_years_X11_copies : GoodIn wsX11_years (wsV RX11 352 RX11 yX11_copies wsX11_copies) := goodIn_app (goodIn_of _ (by decide +kernel)) ggX11_years_X11_copies
set_option maxRecDepth 20000 in
theorem ggX11_years_X11_yearsGo : GoodIn wsX11_years wsX11_yearsGo := goodIn_r _ [20, 21, 22, 23, 4, 24, 25, 15, 26, 13, 27, 28, 29, 30, 31, 16, 32, 33, 34, 35, 36, 37, 38, 39, 40, 41, 42, 43, 44, 45, 46, 47, 48, 49, 50, 51, 52, 53, 54, 55, 56, 57, 58, 59, 60, 61, 62, 63, 64, 65, 66, 67, 68, 69, 70, 71, 72, 73, 74, 75, 76, 77, 78, 79, 80, 81, 82, 83, 84, 95, 96, 97, 98, 99, 100, 101, 102, 103, 104, 105, 106, 107, 108, 109, 110, 111, 112, 113, 114, 115, 116, 117, 118, 119, 120, 121, 122, 123, 124, 125, 126, 127, 128, 129, 130, 131, 132, 133, 134, 135, 136, 137, 138, 139, 140, 141, 142, 143, 144, 145, 146, 147, 148, 149, 150, 151, 152] (by decide +kernel) (by decide +kernel)
set_option maxRecDepth 20000 in
theorem gX11_years_X11_yearsGo : GoodIn wsX11_years (wsV RX11 382 RX11 yX11_yearsGo wsX11_yearsGo) := goodIn_app (goodIn_of _ (by decide +kernel)) ggX11_years_X11_yearsGo
set_option maxRecDepth 20000 in
theorem ggX11_years_X11_records : GoodIn wsX11_years wsX11_records := goodIn_r _ [88, 89, 90, 1, 91, 92, 93, 4, 94, 13, 95, 96, 97, 98, 99, 100, 101, 102, 103, 104, 105, 106, 107, 108, 109, 110, 111, 112, 113, 114, 115, 116, 117, 118, 119, 120, 121, 122, 123, 124, 125, 126, 127, 128, 129, 130, 131, 132, 133, 134, 135, 136, 137, 138, 139, 140, 141, 142, 143, 144, 145, 146, 147, 148, 149, 150, 151, 152] (by decide +kernel) (by decide +kernel)
set_option maxRecDepth 20000 in
theorem gX11_years_X11_records : GoodIn wsX11_years (wsV RX11 376 RX11 yX11_records wsX11_records) := goodIn_app (goodIn_of _ (by decide +kernel)) ggX11_years_X11_records
theorem dX11_years_0 : decode cX11_years 0 = .ok (.iload_n 1, 1) := by decide +kernel
theorem dX11_years_1 : decode cX11_years 1 = .ok (.invokestatic 379, 3) := by decide +kernel
theorem dX11_years_4 : decode cX11_years 4 = .ok (.ifCond .ne 5, 3) := by decide +kernel
theorem dX11_years_7 : decode cX11_years 7 = .ok (.iconst (-1), 1) := by decide +kernel
theorem dX11_years_8 : decode cX11_years 8 = .ok (.ireturn, 1) := by decide +kernel
theorem dX11_years_9 : decode cX11_years 9 = .ok (.iload_n 1, 1) := by decide +kernel
theorem dX11_years_10 : decode cX11_years 10 = .ok (.ifCond .ne 11, 3) := by decide +kernel
theorem dX11_years_13 : decode cX11_years 13 = .ok (.aload_n 0, 1) := by decide +kernel
theorem dX11_years_14 : decode cX11_years 14 = .ok (.getfield 98, 3) := by decide +kernel
theorem dX11_years_17 : decode cX11_years 17 = .ok (.bipush 27, 2) := by decide +kernel
theorem dX11_years_19 : decode cX11_years 19 = .ok (.iaload, 1) := by decide +kernel
theorem dX11_years_20 : decode cX11_years 20 = .ok (.ireturn, 1) := by decide +kernel
theorem dX11_years_21 : decode cX11_years 21 = .ok (.aload_n 0, 1) := by decide +kernel
theorem dX11_years_22 : decode cX11_years 22 = .ok (.invokevirtual 352, 3) := by decide +kernel
theorem dX11_years_25 : decode cX11_years 25 = .ok (.aload_n 0, 1) := by decide +kernel
theorem dX11_years_26 : decode cX11_years 26 = .ok (.iload_n 1, 1) := by decide +kernel
theorem dX11_years_27 : decode cX11_years 27 = .ok (.invokevirtual 382, 3) := by decide +kernel
theorem dX11_years_30 : decode cX11_years 30 = .ok (.aload_n 0, 1) := by decide +kernel
theorem dX11_years_31 : decode cX11_years 31 = .ok (.invokevirtual 376, 3) := by decide +kernel
theorem dX11_years_34 : decode cX11_years 34 = .ok (.aload_n 0, 1) := by decide +kernel
theorem dX11_years_35 : decode cX11_years 35 = .ok (.getfield 98, 3) := by decide +kernel
theorem dX11_years_38 : decode cX11_years 38 = .ok (.bipush 27, 2) := by decide +kernel
theorem dX11_years_40 : decode cX11_years 40 = .ok (.iaload, 1) := by decide +kernel
theorem dX11_years_41 : decode cX11_years 41 = .ok (.ireturn, 1) := by decide +kernel
set_option maxHeartbeats 4000000 in
set_option maxRecDepth 100000 in
theorem c_yearGoes (l : Launch) (dC : Nat → ClassId) (dI : Nat → Nat → Nat) (cB cI cJ cZ cS : ClassId) (h : Nat) (a : Nat → Nat) (v : Nat → Int32) (f : Nat → Nat → Int32) (g : Nat → Nat → Int64) (hv18 : v 18 = 0) (hf20_0 : f 20 0 = 0) : CV l yX11_yearGoes wsX11_yearGoes ({ frames := 0, cells := 0, slots := 0, locals := 0 }) (dC, dI) (tysA cB cI cJ cZ cS) (mw cB cI cJ cZ h a v f g) [.ref h] (fun w => w = (mw cB cI cJ cZ h a v (va_up f 44 (upd (f 44) 27 ((f 44 27) + 1))) g)) := by
  refine open_V (cc := cX11_yearGoes) (maxL := 2) (ret := none) (by decide) rfl (Nat.le_of_ble_eq_true rfl) ?_
  intro p e s m below meth c A ls E
  obtain ⟨C, hr, hlocks, hnm, hA, hP, hK, hD, hN, hl⟩ := E
  obtain ⟨hx, hb, hml, hown, hts⟩ := id C
  have hS : va_S A s.heap s.heap [] := va_S.rf
  have hl : lv_has ls 2 [(0, .ref h)] := hl
  have inX11 : ∀ w ∈ u_ws RX11 TX11 58, w ∈ wsX11_yearGoes := by decide +kernel
  have L101 : Cond.fieldLink RX11 101 "GuessFerryModel" "row" "[I" ∈ wsX11_yearGoes := by decide +kernel
  have L215 : Cond.fieldLink RX11 215 "GuessFerryModel" "live" "I" ∈ wsX11_yearGoes := by decide +kernel
  have L40 : Cond.fieldLink RX11 40 "GuessFerryModel" "waves" "[I" ∈ wsX11_yearGoes := by decide +kernel
  refine lv_iconst (v := 0) hx hb dX11_yearGoes_0 (by decide) ?_
  refine lv_istore_n (lv' := [(1, .int 0), (0, .ref h)]) hx hb dX11_yearGoes_1 rfl hl (by decide) rfl (fun ls hl => ?_)
  refine lv_iload_n hx hb dX11_yearGoes_2 rfl (lv_at hl 0 rfl) ?_
  refine lv_aload_n hx hb dX11_yearGoes_3 rfl (lv_at hl 1 rfl) ?_
  refine q_get (v := .ref (a 20)) C inX11 hK hP 0 rfl rfl 20 (by decide) rfl L40 rfl dX11_yearGoes_4 ?_
  refine lv_aload_n hx hb dX11_yearGoes_7 rfl (lv_at hl 1 rfl) ?_
  refine q_get (v := .int (v 18)) C inX11 hK hP 0 rfl rfl 18 (by decide) rfl L215 rfl dX11_yearGoes_8 ?_
  refine q_top (y := 0) (hv18) ?_
  refine q_iald (x := 0) C hK hP 8 1 rfl rfl (vp_lit (by decide +kernel)) dX11_yearGoes_11 (hf20_0) ?_
  refine lv_icmp_ge (tgt := 62) hx hb dX11_yearGoes_12 (by decide) (fun _ => ?_) (fun h => absurd (by decide +kernel) h)
  refine lv_iconst (v := 0) hx hb dX11_yearGoes_62 (by decide) ?_
  refine lv_istore_n (lv' := [(1, .int 0), (0, .ref h)]) hx hb dX11_yearGoes_63 rfl hl (by decide) rfl (fun ls hl => ?_)
  refine lv_iload_n hx hb dX11_yearGoes_64 rfl (lv_at hl 0 rfl) ?_
  refine lv_aload_n hx hb dX11_yearGoes_65 rfl (lv_at hl 1 rfl) ?_
  refine q_get (v := .ref (a 20)) C inX11 hK hP 0 rfl rfl 20 (by decide) rfl L40 rfl dX11_yearGoes_66 ?_
  refine lv_aload_n hx hb dX11_yearGoes_69 rfl (lv_at hl 1 rfl) ?_
  refine q_get (v := .int (v 18)) C inX11 hK hP 0 rfl rfl 18 (by decide) rfl L215 rfl dX11_yearGoes_70 ?_
  refine q_top (y := 0) (hv18) ?_
  refine q_iald (x := 0) C hK hP 8 1 rfl rfl (vp_lit (by decide +kernel)) dX11_yearGoes_73 (hf20_0) ?_
  refine lv_icmp_ge (tgt := 125) hx hb dX11_yearGoes_74 (by decide) (fun _ => ?_) (fun h => absurd (by decide +kernel) h)
  refine lv_aload_n hx hb dX11_yearGoes_125 rfl (lv_at hl 1 rfl) ?_
  refine q_get (v := .ref (a 44)) C inX11 hK hP 0 rfl rfl 44 (by decide) rfl L101 rfl dX11_yearGoes_126 ?_
  refine lv_bipush (v := 27) hx hb dX11_yearGoes_129 (by decide) ?_
  refine lv_dup2_11 hx hb dX11_yearGoes_131 rfl rfl ?_
  refine q_iald (x := (f 44 27)) C hK hP 28 1 rfl rfl (vp_lit (by decide +kernel)) dX11_yearGoes_132 (rfl) ?_
  refine lv_iconst (v := 1) hx hb dX11_yearGoes_133 (by decide) ?_
  refine lv_iadd hx hb dX11_yearGoes_134 ?_
  refine q_iast (f2 := (upd (f 44) 27 ((f 44 27) + 1))) (w2 := (mw cB cI cJ cZ h a v (va_up f 44 (upd (f 44) 27 ((f 44 27) + 1))) g)) C hK hP hD hS 28 1 rfl rfl (vp_lit (by decide +kernel)) dX11_yearGoes_135 rfl (mw_f44 _) (fun H locs hP hD hS => ?_)
  exact q_vret C hr hlocks hK hP hD hS (Nat.le_of_ble_eq_true rfl) (Nat.le_of_ble_eq_true rfl) dX11_yearGoes_136 (rfl)

set_option maxHeartbeats 4000000 in
set_option maxRecDepth 100000 in
theorem c_yearsGo (l : Launch) (dC : Nat → ClassId) (dI : Nat → Nat → Nat) (cB cI cJ cZ cS : ClassId) (h : Nat) (a : Nat → Nat) (v : Nat → Int32) (f : Nat → Nat → Int32) (g : Nat → Nat → Int64) (hv18 : v 18 = 0) (hf20_0 : f 20 0 = 0) (hf44_27 : f 44 27 = 0) (n0 : Nat) (hn0 : n0 ≤ 40) : CV l yX11_yearsGo wsX11_yearsGo ({ frames := 1, cells := 0, slots := 0, locals := 21 }) (dC, dI) (tysA cB cI cJ cZ cS) (mw cB cI cJ cZ h a v f g) [.ref h, .int (nI n0)] (fun w => ∃ φ : Nat → Int32, φ 27 = nI n0 ∧ w = mw cB cI cJ cZ h a v (va_up f 44 φ) g) := by
  refine open_V (cc := cX11_yearsGo) (maxL := 3) (ret := none) (by decide) rfl (Nat.le_of_ble_eq_true rfl) ?_
  intro p e s m below meth c A ls E
  obtain ⟨C, hr, hlocks, hnm, hA, hP, hK, hD, hN, hl⟩ := E
  obtain ⟨hx, hb, hml, hown, hts⟩ := id C
  have hS : va_S A s.heap s.heap [] := va_S.rf
  have hl : lv_has ls 3 [(0, .ref h), (1, .int (nI n0))] := hl
  refine lv_iconst (v := 0) hx hb dX11_yearsGo_0 (by decide) ?_
  refine lv_istore_n (lv' := [(2, .int 0), (0, .ref h), (1, .int (nI n0))]) hx hb dX11_yearsGo_1 rfl hl (by decide) rfl (fun ls hl => ?_)
  have loop1 : ∀ (n i : Nat), i + n = n0 → ∀ (φ : Nat → Int32) (H : Heap) (locs : List Loc) (ls : Array Slot), va_P (dC, dI) vwCl (mw cB cI cJ cZ h a v (va_up f 44 φ) g) H → va_D A (mw cB cI cJ cZ h a v (va_up f 44 φ) g) → va_S A s.heap H locs → lv_has ls 3 [(2, .int (nI i)), (0, .ref h), (1, .int (nI n0))] → φ 27 = nI i → W p l e ({ frames := 1, cells := 0, slots := 0, locals := 21 }) s m [Value.ref h, Value.int (nI n0)].toArray below meth c H locs 0 0 (MQ below (va_Qv (fun w => ∃ φ : Nat → Int32, φ 27 = nI n0 ∧ w = mw cB cI cJ cZ h a v (va_up f 44 φ) g) (at_W (dC, dI) (tysA cB cI cJ cZ cS) A) A) [Value.ref h, Value.int (nI n0)].toArray s 0 0 A) (F0 m 2 ls []) := by
    intro n
    induction n with
    | zero =>
      intro i hi φ H locs ls hP hD hS hl hφ
      obtain rfl : i = n0 := by omega
      refine lv_iload_n hx hb dX11_yearsGo_2 rfl (lv_at hl 0 rfl) ?_
      refine lv_iload_n hx hb dX11_yearsGo_3 rfl (lv_at hl 2 rfl) ?_
      refine lv_icmp_ge (tgt := 17) hx hb dX11_yearsGo_4 (by decide) (fun _ => ?_) (fun h => absurd (Int32.le_refl _) h)
      exact q_vret C hr hlocks hK hP hD hS (Nat.le_of_ble_eq_true rfl) (Nat.le_of_ble_eq_true rfl) dX11_yearsGo_17 (⟨φ, hφ, rfl⟩)
    | succ n ih =>
      intro i hi φ H locs ls hP hD hS hl hφ
      refine lv_iload_n hx hb dX11_yearsGo_2 rfl (lv_at hl 0 rfl) ?_
      refine lv_iload_n hx hb dX11_yearsGo_3 rfl (lv_at hl 2 rfl) ?_
      refine lv_icmp_ge (tgt := 17) hx hb dX11_yearsGo_4 (by decide) (fun h => absurd h (nI_ge (by omega) (by omega))) (fun _ => ?_)
      refine lv_aload_n hx hb dX11_yearsGo_7 rfl (lv_at hl 1 rfl) ?_
      refine q_govF (va_runV (As := []) (rest := []) C (c_yearGoes l dC dI cB cI cJ cZ cS h a v (va_up f 44 φ) g hv18 hf20_0 _) (cwV 0 hts gX11_yearsGo_X11_yearGoes rfl rfl rfl (by decide +kernel) ⟨Nat.le_of_ble_eq_true rfl, Nat.le_of_ble_eq_true rfl⟩) (q_preV hK hP (ci := 11) (q0 := 0) rfl rfl rfl (q_preF hN hK hP hD)) rfl rfl hl.1 rfl (lv_room (Nat.le_of_ble_eq_true rfl)) dX11_yearsGo_8 ⟨Nat.le_of_ble_eq_true rfl, Nat.le_of_ble_eq_true rfl⟩) hD hS hA (fun w1 H locs hw hP hD hS => ?_)
      obtain rfl := hw
      refine lv_iinc (v := (nI (i + 1))) (lv' := [(2, .int (nI (i + 1))), (0, .ref h), (1, .int (nI n0))]) hx hb dX11_yearsGo_11 hl (k := 0) rfl (nI_1 i) (by decide) rfl (fun ls hl => ?_)
      refine lv_goto (tgt := 2) hx hb dX11_yearsGo_14 (by decide) ?_
      rw [bx_uu] at hP hD
      exact ih (i + 1) (by omega) (upd φ 27 ((φ 27) + 1)) H locs ls hP hD hS (lv_sub hl [0, 1, 2] rfl) (by show upd φ 27 (φ 27 + 1) 27 = nI (i + 1); unfold upd; rw [if_pos rfl, hφ, nI_1])
  exact loop1 n0 0 (by omega) (f 44) _ _ ls hP hD hS (lv_sub hl [0, 1, 2] rfl) (hf44_27)

set_option maxHeartbeats 4000000 in
set_option maxRecDepth 100000 in
theorem c_keepsRow (l : Launch) (dC : Nat → ClassId) (dI : Nat → Nat → Nat) (cB cI cJ cZ cS : ClassId) (h : Nat) (a : Nat → Nat) (v : Nat → Int32) (f : Nat → Nat → Int32) (g : Nat → Nat → Int64)  : CV l yX11_keepsRow wsX11_keepsRow ({ frames := 0, cells := 0, slots := 0, locals := 0 }) (dC, dI) (tysA cB cI cJ cZ cS) (mw cB cI cJ cZ h a v f g) [.ref h] (fun w => ∃ φ : Nat → Int32, (∀ j, j < 29 → φ j = f 44 j) ∧ w = mw cB cI cJ cZ h a v (va_up f 43 φ) g) := by
  refine open_V (cc := cX11_keepsRow) (maxL := 2) (ret := none) (by decide) rfl (Nat.le_of_ble_eq_true rfl) ?_
  intro p e s m below meth c A ls E
  obtain ⟨C, hr, hlocks, hnm, hA, hP, hK, hD, hN, hl⟩ := E
  obtain ⟨hx, hb, hml, hown, hts⟩ := id C
  have hS : va_S A s.heap s.heap [] := va_S.rf
  have hl : lv_has ls 2 [(0, .ref h)] := hl
  have inX11 : ∀ w ∈ u_ws RX11 TX11 58, w ∈ wsX11_keepsRow := fun _ h => List.mem_cons_of_mem _ (List.mem_append_right _ h)
  have L101 : Cond.fieldLink RX11 101 "GuessFerryModel" "row" "[I" ∈ wsX11_keepsRow := by decide +kernel
  have L98 : Cond.fieldLink RX11 98 "GuessFerryModel" "now" "[I" ∈ wsX11_keepsRow := by decide +kernel
  refine lv_iconst (v := 0) hx hb dX11_keepsRow_0 (by decide) ?_
  refine lv_istore_n (lv' := [(1, .int 0), (0, .ref h)]) hx hb dX11_keepsRow_1 rfl hl (by decide) rfl (fun ls hl => ?_)
  have loop1 : ∀ (n i : Nat), i + n = 29 → ∀ (φ : Nat → Int32) (H : Heap) (locs : List Loc) (ls : Array Slot), va_P (dC, dI) vwCl (mw cB cI cJ cZ h a v (va_up f 43 φ) g) H → va_D A (mw cB cI cJ cZ h a v (va_up f 43 φ) g) → va_S A s.heap H locs → lv_has ls 2 [(1, .int (nI i)), (0, .ref h)] → (∀ j, j < i → φ j = f 44 j) → W p l e ({ frames := 0, cells := 0, slots := 0, locals := 0 }) s m [Value.ref h].toArray below meth c H locs 0 0 (MQ below (va_Qv (fun w => ∃ φ : Nat → Int32, (∀ j, j < 29 → φ j = f 44 j) ∧ w = mw cB cI cJ cZ h a v (va_up f 43 φ) g) (at_W (dC, dI) (tysA cB cI cJ cZ cS) A) A) [Value.ref h].toArray s 0 0 A) (F0 m 2 ls []) := by
    intro n
    induction n with
    | zero =>
      intro i hi φ H locs ls hP hD hS hl hφ
      obtain rfl : i = 29 := by omega
      refine lv_iload_n hx hb dX11_keepsRow_2 rfl (lv_at hl 0 rfl) ?_
      refine lv_bipush (v := 29) hx hb dX11_keepsRow_3 (by decide) ?_
      refine lv_icmp_ge (tgt := 26) hx hb dX11_keepsRow_5 (by decide) (fun _ => ?_) (fun h => absurd (by decide +kernel) h)
      exact q_vret C hr hlocks hK hP hD hS (Nat.le_of_ble_eq_true rfl) (Nat.le_of_ble_eq_true rfl) dX11_keepsRow_26 (⟨φ, hφ, rfl⟩)
    | succ n ih =>
      intro i hi φ H locs ls hP hD hS hl hφ
      refine lv_iload_n hx hb dX11_keepsRow_2 rfl (lv_at hl 0 rfl) ?_
      refine lv_bipush (v := 29) hx hb dX11_keepsRow_3 (by decide) ?_
      refine lv_icmp_ge (tgt := 26) hx hb dX11_keepsRow_5 (by decide) (fun h => absurd h (nI_nge (n := 29) (by omega) (by omega))) (fun _ => ?_)
      refine lv_aload_n hx hb dX11_keepsRow_8 rfl (lv_at hl 1 rfl) ?_
      refine q_get (v := .ref (a 43)) C inX11 hK hP 0 rfl rfl 43 (by decide) rfl L98 rfl dX11_keepsRow_9 ?_
      refine lv_iload_n hx hb dX11_keepsRow_12 rfl (lv_at hl 0 rfl) ?_
      refine lv_aload_n hx hb dX11_keepsRow_13 rfl (lv_at hl 1 rfl) ?_
      refine q_get (v := .ref (a 44)) C inX11 hK hP 0 rfl rfl 44 (by decide) rfl L101 rfl dX11_keepsRow_14 ?_
      refine lv_iload_n hx hb dX11_keepsRow_17 rfl (lv_at hl 0 rfl) ?_
      refine q_iald (x := (f 44 (Int32.toNatClampNeg (nI i)))) C hK hP 28 1 rfl rfl (vp_in_nI (by omega) (by omega)) dX11_keepsRow_18 (rfl) ?_
      refine q_iast (f2 := (upd φ (Int32.toNatClampNeg (nI i)) (f 44 (Int32.toNatClampNeg (nI i))))) (w2 := (mw cB cI cJ cZ h a v (va_up (va_up f 43 φ) 43 (upd φ (Int32.toNatClampNeg (nI i)) (f 44 (Int32.toNatClampNeg (nI i))))) g)) C hK hP hD hS 27 1 rfl rfl (vp_in_nI (by omega) (by omega)) dX11_keepsRow_19 rfl (mw_f43 _) (fun H locs hP hD hS => ?_)
      refine lv_iinc (v := (nI (i + 1))) (lv' := [(1, .int (nI (i + 1))), (0, .ref h)]) hx hb dX11_keepsRow_20 hl (k := 0) rfl (nI_1 i) (by decide) rfl (fun ls hl => ?_)
      refine lv_goto (tgt := 2) hx hb dX11_keepsRow_23 (by decide) ?_
      rw [bx_uu] at hP hD
      exact ih (i + 1) (by omega) (upd φ (Int32.toNatClampNeg (nI i)) (f 44 (Int32.toNatClampNeg (nI i)))) H locs ls hP hD hS (lv_sub hl [0, 1] rfl) (fun j hj => by show upd φ (Int32.toNatClampNeg (nI i)) (f 44 (Int32.toNatClampNeg (nI i))) j = f 44 j; rw [nI_clamp (by omega)]; unfold upd; split <;> first | exact hφ j (by omega) | (rename_i hji; rw [hji]))
  exact loop1 29 0 (by omega) (f 43) _ _ ls hP hD hS (lv_sub hl [0, 1] rfl) (fun j hj => absurd hj (by omega))

set_option maxHeartbeats 4000000 in
set_option maxRecDepth 100000 in
theorem c_records (l : Launch) (dC : Nat → ClassId) (dI : Nat → Nat → Nat) (cB cI cJ cZ cS : ClassId) (h : Nat) (a : Nat → Nat) (v : Nat → Int32) (f : Nat → Nat → Int32) (g : Nat → Nat → Int64) (hv48 : v 48 = 0) : CV l yX11_records wsX11_records ({ frames := 1, cells := 0, slots := 0, locals := 21 }) (dC, dI) (tysA cB cI cJ cZ cS) (mw cB cI cJ cZ h a v f g) [.ref h] (fun w => ∃ φ ψ : Nat → Int32, (∀ j, j < 29 → ψ j = f 44 j) ∧ w = mw cB cI cJ cZ h a (va_up v 48 1) (va_up (va_up f 49 φ) 43 ψ) g) := by
  refine open_V (cc := cX11_records) (maxL := 2) (ret := none) (by decide) rfl (Nat.le_of_ble_eq_true rfl) ?_
  intro p e s m below meth c A ls E
  obtain ⟨C, hr, hlocks, hnm, hA, hP, hK, hD, hN, hl⟩ := E
  obtain ⟨hx, hb, hml, hown, hts⟩ := id C
  have hS : va_S A s.heap s.heap [] := va_S.rf
  have hl : lv_has ls 2 [(0, .ref h)] := hl
  have inX11 : ∀ w ∈ u_ws RX11 TX11 58, w ∈ wsX11_records := fun _ h => List.mem_cons_of_mem _ (List.mem_append_right _ h)
  have L110 : Cond.fieldLink RX11 110 "GuessFerryModel" "history" "[I" ∈ wsX11_records := by decide +kernel
  have L230 : Cond.fieldLink RX11 230 "GuessFerryModel" "undos" "I" ∈ wsX11_records := by decide +kernel
  have L98 : Cond.fieldLink RX11 98 "GuessFerryModel" "now" "[I" ∈ wsX11_records := by decide +kernel
  refine lv_aload_n hx hb dX11_records_0 rfl (lv_at hl 0 rfl) ?_
  refine q_get (v := .int (v 48)) C inX11 hK hP 0 rfl rfl 48 (by decide) rfl L230 rfl dX11_records_1 ?_
  refine q_top (y := 0) (hv48) ?_
  refine lv_bipush (v := 40) hx hb dX11_records_4 (by decide) ?_
  refine lv_icmp_ne (tgt := 49) hx hb dX11_records_6 (by decide) (fun _ => ?_) (fun h => absurd h (by decide +kernel))
  refine lv_iconst (v := 0) hx hb dX11_records_49 (by decide) ?_
  refine lv_istore_n (lv' := [(1, .int 0), (0, .ref h)]) hx hb dX11_records_50 rfl hl (by decide) rfl (fun ls hl => ?_)
  have loop1 : ∀ (n i : Nat), i + n = 29 → ∀ (φ : Nat → Int32) (H : Heap) (locs : List Loc) (ls : Array Slot), va_P (dC, dI) vwCl (mw cB cI cJ cZ h a v (va_up f 49 φ) g) H → va_D A (mw cB cI cJ cZ h a v (va_up f 49 φ) g) → va_S A s.heap H locs → lv_has ls 2 [(1, .int (nI i)), (0, .ref h)] → W p l e ({ frames := 1, cells := 0, slots := 0, locals := 21 }) s m [Value.ref h].toArray below meth c H locs 0 0 (MQ below (va_Qv (fun w => ∃ φ ψ : Nat → Int32, (∀ j, j < 29 → ψ j = f 44 j) ∧ w = mw cB cI cJ cZ h a (va_up v 48 1) (va_up (va_up f 49 φ) 43 ψ) g) (at_W (dC, dI) (tysA cB cI cJ cZ cS) A) A) [Value.ref h].toArray s 0 0 A) (F0 m 51 ls []) := by
    intro n
    induction n with
    | zero =>
      intro i hi φ H locs ls hP hD hS hl
      obtain rfl : i = 29 := by omega
      refine lv_iload_n hx hb dX11_records_51 rfl (lv_at hl 0 rfl) ?_
      refine lv_bipush (v := 29) hx hb dX11_records_52 (by decide) ?_
      refine lv_icmp_ge (tgt := 83) hx hb dX11_records_54 (by decide) (fun _ => ?_) (fun h => absurd (by decide +kernel) h)
      refine lv_aload_n hx hb dX11_records_83 rfl (lv_at hl 1 rfl) ?_
      refine lv_dup hx hb dX11_records_84 rfl ?_
      refine q_get (v := .int (v 48)) C inX11 hK hP 0 rfl rfl 48 (by decide) rfl L230 rfl dX11_records_85 ?_
      refine q_top (y := 0) (hv48) ?_
      refine lv_iconst (v := 1) hx hb dX11_records_88 (by decide) ?_
      refine lv_iadd hx hb dX11_records_89 ?_
      refine q_top (y := 1) (by decide +kernel) ?_
      refine q_put (ty := .int) (w2 := (mw cB cI cJ cZ h a (va_up v 48 1) (va_up f 49 φ) g)) tyX11 tyX11_ok nmX11 C inX11 hK hP hD hS 0 rfl rfl 48 (by decide) rfl L230 rfl (by decide +kernel) (rfl) rfl (Nat.le_of_ble_eq_true rfl) dX11_records_90 (mw_v48 _) (fun H locs hP hD hS => ?_)
      refine lv_aload_n hx hb dX11_records_93 rfl (lv_at hl 1 rfl) ?_
      refine q_govF (va_runV (As := []) (rest := []) C (c_keepsRow l dC dI cB cI cJ cZ cS h a (va_up v 48 1) (va_up f 49 φ) g _) (cwV 0 hts gX11_records_X11_keepsRow rfl rfl rfl (by decide +kernel) ⟨Nat.le_of_ble_eq_true rfl, Nat.le_of_ble_eq_true rfl⟩) (q_preV hK hP (ci := 11) (q0 := 0) rfl rfl rfl (q_preF hN hK hP hD)) rfl rfl hl.1 rfl (lv_room (Nat.le_of_ble_eq_true rfl)) dX11_records_94 ⟨Nat.le_of_ble_eq_true rfl, Nat.le_of_ble_eq_true rfl⟩) hD hS hA (fun w1 H locs hw hP hD hS => ?_)
      obtain ⟨φk2, hφk3, rfl⟩ := hw
      exact q_vret C hr hlocks hK hP hD hS (Nat.le_of_ble_eq_true rfl) (Nat.le_of_ble_eq_true rfl) dX11_records_97 (⟨φ, φk2, hφk3, rfl⟩)
    | succ n ih =>
      intro i hi φ H locs ls hP hD hS hl
      refine lv_iload_n hx hb dX11_records_51 rfl (lv_at hl 0 rfl) ?_
      refine lv_bipush (v := 29) hx hb dX11_records_52 (by decide) ?_
      refine lv_icmp_ge (tgt := 83) hx hb dX11_records_54 (by decide) (fun h => absurd h (nI_nge (n := 29) (by omega) (by omega))) (fun _ => ?_)
      refine lv_aload_n hx hb dX11_records_57 rfl (lv_at hl 1 rfl) ?_
      refine q_get (v := .ref (a 49)) C inX11 hK hP 0 rfl rfl 49 (by decide) rfl L110 rfl dX11_records_58 ?_
      refine lv_bipush (v := 29) hx hb dX11_records_61 (by decide) ?_
      refine lv_aload_n hx hb dX11_records_63 rfl (lv_at hl 1 rfl) ?_
      refine q_get (v := .int (v 48)) C inX11 hK hP 0 rfl rfl 48 (by decide) rfl L230 rfl dX11_records_64 ?_
      refine q_top (y := 0) (hv48) ?_
      refine lv_imul hx hb dX11_records_67 ?_
      refine q_top (y := 0) (by decide +kernel) ?_
      refine lv_iload_n hx hb dX11_records_68 rfl (lv_at hl 0 rfl) ?_
      refine lv_iadd hx hb dX11_records_69 ?_
      refine q_top (y := (nI (0 + i))) (nI_add 0 i) ?_
      refine lv_aload_n hx hb dX11_records_70 rfl (lv_at hl 1 rfl) ?_
      refine q_get (v := .ref (a 43)) C inX11 hK hP 0 rfl rfl 43 (by decide) rfl L98 rfl dX11_records_71 ?_
      refine lv_iload_n hx hb dX11_records_74 rfl (lv_at hl 0 rfl) ?_
      refine q_iald (x := (f 43 (Int32.toNatClampNeg (nI i)))) C hK hP 27 1 rfl rfl (vp_in_nI (by omega) (by omega)) dX11_records_75 (rfl) ?_
      refine q_iast (f2 := (upd φ (Int32.toNatClampNeg (nI (0 + i))) (f 43 (Int32.toNatClampNeg (nI i))))) (w2 := (mw cB cI cJ cZ h a v (va_up (va_up f 49 φ) 49 (upd φ (Int32.toNatClampNeg (nI (0 + i))) (f 43 (Int32.toNatClampNeg (nI i))))) g)) C hK hP hD hS 31 1 rfl rfl (vp_in_nI (by omega) (by omega)) dX11_records_76 rfl (mw_f49 _) (fun H locs hP hD hS => ?_)
      refine lv_iinc (v := (nI (i + 1))) (lv' := [(1, .int (nI (i + 1))), (0, .ref h)]) hx hb dX11_records_77 hl (k := 0) rfl (nI_1 i) (by decide) rfl (fun ls hl => ?_)
      refine lv_goto (tgt := 51) hx hb dX11_records_80 (by decide) ?_
      rw [bx_uu] at hP hD
      exact ih (i + 1) (by omega) (upd φ (Int32.toNatClampNeg (nI (0 + i))) (f 43 (Int32.toNatClampNeg (nI i)))) H locs ls hP hD hS (lv_sub hl [0, 1] rfl)
  exact loop1 29 0 (by omega) (f 49) _ _ ls hP hD hS (lv_sub hl [0, 1] rfl)

set_option maxHeartbeats 4000000 in
set_option maxRecDepth 100000 in
theorem c_years (l : Launch) (dC : Nat → ClassId) (dI : Nat → Nat → Nat) (cB cI cJ cZ cS : ClassId) (h : Nat) (a : Nat → Nat) (v : Nat → Int32) (f : Nat → Nat → Int32) (g : Nat → Nat → Int64) (hv18 : v 18 = 0) (hf26_0 : f 26 0 = 0) (hv45 : v 45 = 0) (hf20_0 : f 20 0 = 0) (hf43_27 : f 43 27 = 0) (hf44_27 : f 44 27 = 0) (hv48 : v 48 = 0) (x1 : Int32) (hrow : ∀ j, j < 29 → f 44 j = f 43 j) : CI l yX11_years wsX11_years ({ frames := 2, cells := 0, slots := 0, locals := 43 }) (dC, dI) (tysA cB cI cJ cZ cS) (mw cB cI cJ cZ h a v f g) [.ref h, .int x1] (fun r _ => r = (fr_years x1)) := by
  refine open_I (cc := cX11_years) (maxL := 2) (ret := (some .int)) (by decide) rfl (Nat.le_of_ble_eq_true rfl) ?_
  intro p e s m below meth c A ls E
  obtain ⟨C, hr, hlocks, hnm, hA, hP, hK, hD, hN, hl⟩ := E
  obtain ⟨hx, hb, hml, hown, hts⟩ := id C
  have hS : va_S A s.heap s.heap [] := va_S.rf
  have hl : lv_has ls 2 [(0, .ref h), (1, .int x1)] := hl
  have inX11 : ∀ w ∈ u_ws RX11 TX11 58, w ∈ wsX11_years := by decide +kernel
  have L98 : Cond.fieldLink RX11 98 "GuessFerryModel" "now" "[I" ∈ wsX11_years := by decide +kernel
  refine lv_iload_n hx hb dX11_years_0 rfl (lv_at hl 1 rfl) ?_
  refine q_goi0 (va_runS (As := [.int x1]) (rest := []) C (c_isLong l dC dI cB cI cJ cZ cS x1 _) (va_cwS 1 hts gX11_years_X11_isLong rfl rfl rfl (by decide +kernel) ⟨Nat.le_of_ble_eq_true rfl, Nat.le_of_ble_eq_true rfl⟩) (q_pre0 hN hK) rfl rfl hl.1 rfl (lv_room (Nat.le_of_ble_eq_true rfl)) dX11_years_1 ⟨Nat.le_of_ble_eq_true rfl, Nat.le_of_ble_eq_true rfl⟩) hP hD hS hA (fun r w1 H locs hw hP hS => ?_)
  obtain rfl := hw
  refine lv_if_ne (tgt := 9) hx hb dX11_years_4 (by decide) (fun c1 => ?_) (fun c1 => ?_)
  · skip
    obtain ⟨n0, hn0, rfl⟩ := sp_in_40 c1
    refine lv_iload_n hx hb dX11_years_9 rfl (lv_at hl 1 rfl) ?_
    refine lv_if_ne (tgt := 21) hx hb dX11_years_10 (by decide) (fun c2 => ?_) (fun c2 => ?_)
    · skip
      refine lv_aload_n hx hb dX11_years_21 rfl (lv_at hl 0 rfl) ?_
      refine q_govF (va_runV (As := []) (rest := []) C (c_copies l dC dI cB cI cJ cZ cS h a v f g hv18 hf26_0 hv45 (hrow) _) (cwV 0 hts gX11_years_X11_copies rfl rfl rfl (by decide +kernel) ⟨Nat.le_of_ble_eq_true rfl, Nat.le_of_ble_eq_true rfl⟩) (q_preV hK hP (ci := 11) (q0 := 0) rfl rfl rfl (q_preF hN hK hP hD)) rfl rfl hl.1 rfl (lv_room (Nat.le_of_ble_eq_true rfl)) dX11_years_22 ⟨Nat.le_of_ble_eq_true rfl, Nat.le_of_ble_eq_true rfl⟩) hD hS hA (fun w1 H locs hw hP hD hS => ?_)
      obtain rfl := hw
      refine lv_aload_n hx hb dX11_years_25 rfl (lv_at hl 0 rfl) ?_
      refine lv_iload_n hx hb dX11_years_26 rfl (lv_at hl 1 rfl) ?_
      refine q_govF (va_runV (As := [.int (nI n0)]) (rest := []) C (c_yearsGo l dC dI cB cI cJ cZ cS h a v f g hv18 hf20_0 hf44_27 n0 (hn0) _) (cwV 1 hts gX11_years_X11_yearsGo rfl rfl rfl (by decide +kernel) ⟨Nat.le_of_ble_eq_true rfl, Nat.le_of_ble_eq_true rfl⟩) (q_preV hK hP (ci := 11) (q0 := 0) rfl rfl rfl (q_preF hN hK hP hD)) rfl rfl hl.1 rfl (lv_room (Nat.le_of_ble_eq_true rfl)) dX11_years_27 ⟨Nat.le_of_ble_eq_true rfl, Nat.le_of_ble_eq_true rfl⟩) hD hS hA (fun w1 H locs hw hP hD hS => ?_)
      obtain ⟨φy3, hφy4, rfl⟩ := hw
      refine lv_aload_n hx hb dX11_years_30 rfl (lv_at hl 0 rfl) ?_
      refine q_govF (va_runV (As := []) (rest := []) C (c_records l dC dI cB cI cJ cZ cS h a v (va_up f 44 φy3) g hv48 _) (cwV 0 hts gX11_years_X11_records rfl rfl rfl (by decide +kernel) ⟨Nat.le_of_ble_eq_true rfl, Nat.le_of_ble_eq_true rfl⟩) (q_preV hK hP (ci := 11) (q0 := 0) rfl rfl rfl (q_preF hN hK hP hD)) rfl rfl hl.1 rfl (lv_room (Nat.le_of_ble_eq_true rfl)) dX11_years_31 ⟨Nat.le_of_ble_eq_true rfl, Nat.le_of_ble_eq_true rfl⟩) hD hS hA (fun w1 H locs hw hP hD hS => ?_)
      obtain ⟨φr5, φr6, hφr7, rfl⟩ := hw
      refine lv_aload_n hx hb dX11_years_34 rfl (lv_at hl 0 rfl) ?_
      refine q_get (v := .ref (a 43)) C inX11 hK hP 0 rfl rfl 43 (by decide) rfl L98 rfl dX11_years_35 ?_
      refine lv_bipush (v := 27) hx hb dX11_years_38 (by decide) ?_
      refine q_iald (x := (φr6 27)) C hK hP 27 1 rfl rfl (vp_lit (by decide +kernel)) dX11_years_40 (rfl) ?_
      exact q_iret C hr hlocks hK hP hD hS (Nat.le_of_ble_eq_true rfl) (Nat.le_of_ble_eq_true rfl) dX11_years_41 ((hφr7 27 (by decide)).trans ((hφy4).trans (fr_years_v hn0)))
    · skip
      refine lv_aload_n hx hb dX11_years_13 rfl (lv_at hl 0 rfl) ?_
      refine q_get (v := .ref (a 43)) C inX11 hK hP 0 rfl rfl 43 (by decide) rfl L98 rfl dX11_years_14 ?_
      refine lv_bipush (v := 27) hx hb dX11_years_17 (by decide) ?_
      refine q_iald (x := 0) C hK hP 27 1 rfl rfl (vp_lit (by decide +kernel)) dX11_years_19 (hf43_27) ?_
      exact q_iret C hr hlocks hK hP hD hS (Nat.le_of_ble_eq_true rfl) (Nat.le_of_ble_eq_true rfl) dX11_years_20 (fr_years_0 hn0 (by rw [c2]; decide +kernel))
  · skip
    refine lv_iconst (v := (-1)) hx hb dX11_years_7 (by decide) ?_
    exact q_iret C hr hlocks hK hP hD hS (Nat.le_of_ble_eq_true rfl) (Nat.le_of_ble_eq_true rfl) dX11_years_8 (by unfold fr_years; rw [if_pos c1])

set_option maxHeartbeats 4000000 in
set_option maxRecDepth 100000 in
theorem c_byteAt (l : Launch) (dC : Nat → ClassId) (dI : Nat → Nat → Nat) (cB cI cJ cZ cS : ClassId) (h : Nat) (a : Nat → Nat) (v : Nat → Int32) (f : Nat → Nat → Int32) (g : Nat → Nat → Int64) (hv4 : v 4 = 0) : CI l yX11_byteAt wsX11_byteAt ({ frames := 0, cells := 0, slots := 0, locals := 0 }) (dC, dI) (tysA cB cI cJ cZ cS) (mw cB cI cJ cZ h a v f g) [.ref h, .int 0] (fun r w => w = (mw cB cI cJ cZ h a v f g) ∧ r = 0) := by
  refine open_I (cc := cX11_byteAt) (maxL := 2) (ret := (some .int)) (by decide) rfl (Nat.le_of_ble_eq_true rfl) ?_
  intro p e s m below meth c A ls E
  obtain ⟨C, hr, hlocks, hnm, hA, hP, hK, hD, hN, hl⟩ := E
  obtain ⟨hx, hb, hml, hown, hts⟩ := id C
  have hS : va_S A s.heap s.heap [] := va_S.rf
  have hl : lv_has ls 2 [(0, .ref h), (1, .int 0)] := hl
  have inX11 : ∀ w ∈ u_ws RX11 TX11 58, w ∈ wsX11_byteAt := fun _ h => List.mem_cons_of_mem _ (List.mem_append_right _ h)
  have L154 : Cond.fieldLink RX11 154 "GuessFerryModel" "size" "I" ∈ wsX11_byteAt := by decide +kernel
  refine lv_iload_n hx hb dX11_byteAt_0 rfl (lv_at hl 1 rfl) ?_
  refine lv_aload_n hx hb dX11_byteAt_1 rfl (lv_at hl 0 rfl) ?_
  refine q_get (v := .int (v 4)) C inX11 hK hP 0 rfl rfl 4 (by decide) rfl L154 rfl dX11_byteAt_2 ?_
  refine q_top (y := 0) (hv4) ?_
  refine lv_icmp_ge (tgt := 21) hx hb dX11_byteAt_5 (by decide) (fun _ => ?_) (fun h => absurd (by decide +kernel) h)
  refine lv_iconst (v := 0) hx hb dX11_byteAt_21 (by decide) ?_
  exact q_iret C hr hlocks hK hP hD hS (Nat.le_of_ble_eq_true rfl) (Nat.le_of_ble_eq_true rfl) dX11_byteAt_22 (⟨rfl, rfl⟩)

set_option maxHeartbeats 4000000 in
set_option maxRecDepth 100000 in
theorem c_token (l : Launch) (dC : Nat → ClassId) (dI : Nat → Nat → Nat) (cB cI cJ cZ cS : ClassId) (h : Nat) (a : Nat → Nat) (v : Nat → Int32) (f : Nat → Nat → Int32) (g : Nat → Nat → Int64) (hv10 : v 10 = 0) : CV l yX11_token wsX11_token ({ frames := 0, cells := 0, slots := 0, locals := 0 }) (dC, dI) (tysA cB cI cJ cZ cS) (mw cB cI cJ cZ h a v f g) [.ref h, .int 0, .int 0, .int 0, .long 0] (fun w => w = (mw cB cI cJ cZ h a (va_up v 10 1) (va_up (va_up (va_up f 5 (upd (f 5) 0 0)) 6 (upd (f 6) 0 0)) 7 (upd (f 7) 0 0)) (va_up g 8 (vp_updL (g 8) 0 0)))) := by
  refine open_V (cc := cX11_token) (maxL := 6) (ret := none) (by decide) rfl (Nat.le_of_ble_eq_true rfl) ?_
  intro p e s m below meth c A ls E
  obtain ⟨C, hr, hlocks, hnm, hA, hP, hK, hD, hN, hl⟩ := E
  obtain ⟨hx, hb, hml, hown, hts⟩ := id C
  have hS : va_S A s.heap s.heap [] := va_S.rf
  have hl : lv_has ls 6 [(0, .ref h), (1, .int 0), (2, .int 0), (3, .int 0), (4, .long 0)] := hl
  have inX11 : ∀ w ∈ u_ws RX11 TX11 58, w ∈ wsX11_token := fun _ h => List.mem_cons_of_mem _ (List.mem_append_right _ h)
  have L163 : Cond.fieldLink RX11 163 "GuessFerryModel" "tokens" "I" ∈ wsX11_token := by decide +kernel
  have L20 : Cond.fieldLink RX11 20 "GuessFerryModel" "tKind" "[I" ∈ wsX11_token := by decide +kernel
  have L24 : Cond.fieldLink RX11 24 "GuessFerryModel" "tPlace" "[I" ∈ wsX11_token := by decide +kernel
  have L27 : Cond.fieldLink RX11 27 "GuessFerryModel" "tValue" "[I" ∈ wsX11_token := by decide +kernel
  have L30 : Cond.fieldLink RX11 30 "GuessFerryModel" "tName" "[J" ∈ wsX11_token := by decide +kernel
  refine lv_aload_n hx hb dX11_token_0 rfl (lv_at hl 0 rfl) ?_
  refine q_get (v := .ref (a 5)) C inX11 hK hP 0 rfl rfl 5 (by decide) rfl L20 rfl dX11_token_1 ?_
  refine lv_aload_n hx hb dX11_token_4 rfl (lv_at hl 0 rfl) ?_
  refine q_get (v := .int (v 10)) C inX11 hK hP 0 rfl rfl 10 (by decide) rfl L163 rfl dX11_token_5 ?_
  refine q_top (y := 0) (hv10) ?_
  refine lv_iload_n hx hb dX11_token_8 rfl (lv_at hl 1 rfl) ?_
  refine q_iast (f2 := (upd (f 5) 0 0)) (w2 := (mw cB cI cJ cZ h a v (va_up f 5 (upd (f 5) 0 0)) g)) C hK hP hD hS 3 1 rfl rfl (vp_lit (by decide +kernel)) dX11_token_9 rfl (mw_f5 _) (fun H locs hP hD hS => ?_)
  refine lv_aload_n hx hb dX11_token_10 rfl (lv_at hl 0 rfl) ?_
  refine q_get (v := .ref (a 6)) C inX11 hK hP 0 rfl rfl 6 (by decide) rfl L24 rfl dX11_token_11 ?_
  refine lv_aload_n hx hb dX11_token_14 rfl (lv_at hl 0 rfl) ?_
  refine q_get (v := .int (v 10)) C inX11 hK hP 0 rfl rfl 10 (by decide) rfl L163 rfl dX11_token_15 ?_
  refine q_top (y := 0) (hv10) ?_
  refine lv_iload_n hx hb dX11_token_18 rfl (lv_at hl 2 rfl) ?_
  refine q_iast (f2 := (upd (f 6) 0 0)) (w2 := (mw cB cI cJ cZ h a v (va_up (va_up f 5 (upd (f 5) 0 0)) 6 (upd (f 6) 0 0)) g)) C hK hP hD hS 4 1 rfl rfl (vp_lit (by decide +kernel)) dX11_token_19 rfl (mw_f6 _) (fun H locs hP hD hS => ?_)
  refine lv_aload_n hx hb dX11_token_20 rfl (lv_at hl 0 rfl) ?_
  refine q_get (v := .ref (a 7)) C inX11 hK hP 0 rfl rfl 7 (by decide) rfl L27 rfl dX11_token_21 ?_
  refine lv_aload_n hx hb dX11_token_24 rfl (lv_at hl 0 rfl) ?_
  refine q_get (v := .int (v 10)) C inX11 hK hP 0 rfl rfl 10 (by decide) rfl L163 rfl dX11_token_25 ?_
  refine q_top (y := 0) (hv10) ?_
  refine lv_iload_n hx hb dX11_token_28 rfl (lv_at hl 3 rfl) ?_
  refine q_iast (f2 := (upd (f 7) 0 0)) (w2 := (mw cB cI cJ cZ h a v (va_up (va_up (va_up f 5 (upd (f 5) 0 0)) 6 (upd (f 6) 0 0)) 7 (upd (f 7) 0 0)) g)) C hK hP hD hS 5 1 rfl rfl (vp_lit (by decide +kernel)) dX11_token_29 rfl (mw_f7 _) (fun H locs hP hD hS => ?_)
  refine lv_aload_n hx hb dX11_token_30 rfl (lv_at hl 0 rfl) ?_
  refine q_get (v := .ref (a 8)) C inX11 hK hP 0 rfl rfl 8 (by decide) rfl L30 rfl dX11_token_31 ?_
  refine lv_aload_n hx hb dX11_token_34 rfl (lv_at hl 0 rfl) ?_
  refine q_get (v := .int (v 10)) C inX11 hK hP 0 rfl rfl 10 (by decide) rfl L163 rfl dX11_token_35 ?_
  refine q_top (y := 0) (hv10) ?_
  refine lv_lload hx hb dX11_token_38 (lv_at hl 4 rfl) ?_
  refine q_last (f2 := (vp_updL (g 8) 0 0)) (w2 := (mw cB cI cJ cZ h a v (va_up (va_up (va_up f 5 (upd (f 5) 0 0)) 6 (upd (f 6) 0 0)) 7 (upd (f 7) 0 0)) (va_up g 8 (vp_updL (g 8) 0 0)))) C hK hP hD hS 6 2 rfl rfl (vp_lit (by decide +kernel)) dX11_token_40 rfl (mw_f8 _) (fun H locs hP hD hS => ?_)
  refine lv_aload_n hx hb dX11_token_41 rfl (lv_at hl 0 rfl) ?_
  refine lv_dup hx hb dX11_token_42 rfl ?_
  refine q_get (v := .int (v 10)) C inX11 hK hP 0 rfl rfl 10 (by decide) rfl L163 rfl dX11_token_43 ?_
  refine q_top (y := 0) (hv10) ?_
  refine lv_iconst (v := 1) hx hb dX11_token_46 (by decide) ?_
  refine lv_iadd hx hb dX11_token_47 ?_
  refine q_top (y := 1) (by decide +kernel) ?_
  refine q_put (ty := .int) (w2 := (mw cB cI cJ cZ h a (va_up v 10 1) (va_up (va_up (va_up f 5 (upd (f 5) 0 0)) 6 (upd (f 6) 0 0)) 7 (upd (f 7) 0 0)) (va_up g 8 (vp_updL (g 8) 0 0)))) tyX11 tyX11_ok nmX11 C inX11 hK hP hD hS 0 rfl rfl 10 (by decide) rfl L163 rfl (by decide +kernel) (rfl) rfl (Nat.le_of_ble_eq_true rfl) dX11_token_48 (mw_v10 _) (fun H locs hP hD hS => ?_)
  exact q_vret C hr hlocks hK hP hD hS (Nat.le_of_ble_eq_true rfl) (Nat.le_of_ble_eq_true rfl) dX11_token_51 (rfl)

set_option maxHeartbeats 4000000 in
set_option maxRecDepth 100000 in
theorem c_cut (l : Launch) (dC : Nat → ClassId) (dI : Nat → Nat → Nat) (cB cI cJ cZ cS : ClassId) (h : Nat) (a : Nat → Nat) (v : Nat → Int32) (f : Nat → Nat → Int32) (g : Nat → Nat → Int64) (hv4 : v 4 = 0) : CV l yX11_cut wsX11_cut ({ frames := 1, cells := 0, slots := 0, locals := 25 }) (dC, dI) (tysA cB cI cJ cZ cS) (mw cB cI cJ cZ h a v f g) [.ref h] (fun w => w = (mw cB cI cJ cZ h a (va_up (va_up v 10 0) 10 1) (va_up (va_up (va_up f 5 (upd (f 5) 0 0)) 6 (upd (f 6) 0 0)) 7 (upd (f 7) 0 0)) (va_up g 8 (vp_updL (g 8) 0 0)))) := by
  refine open_V (cc := cX11_cut) (maxL := 8) (ret := none) (by decide) rfl (Nat.le_of_ble_eq_true rfl) ?_
  intro p e s m below meth c A ls E
  obtain ⟨C, hr, hlocks, hnm, hA, hP, hK, hD, hN, hl⟩ := E
  obtain ⟨hx, hb, hml, hown, hts⟩ := id C
  have hS : va_S A s.heap s.heap [] := va_S.rf
  have hl : lv_has ls 8 [(0, .ref h)] := hl
  have inX11 : ∀ w ∈ u_ws RX11 TX11 58, w ∈ wsX11_cut := by decide +kernel
  have L154 : Cond.fieldLink RX11 154 "GuessFerryModel" "size" "I" ∈ wsX11_cut := by decide +kernel
  have L163 : Cond.fieldLink RX11 163 "GuessFerryModel" "tokens" "I" ∈ wsX11_cut := by decide +kernel
  refine lv_aload_n hx hb dX11_cut_0 rfl (lv_at hl 0 rfl) ?_
  refine lv_iconst (v := 0) hx hb dX11_cut_1 (by decide) ?_
  refine q_put (ty := .int) (w2 := (mw cB cI cJ cZ h a (va_up v 10 0) f g)) tyX11 tyX11_ok nmX11 C inX11 hK hP hD hS 0 rfl rfl 10 (by decide) rfl L163 rfl (by decide +kernel) (rfl) rfl (Nat.le_of_ble_eq_true rfl) dX11_cut_2 (mw_v10 _) (fun H locs hP hD hS => ?_)
  refine lv_iconst (v := 0) hx hb dX11_cut_5 (by decide) ?_
  refine lv_istore_n (lv' := [(1, .int 0), (0, .ref h)]) hx hb dX11_cut_6 rfl hl (by decide) rfl (fun ls hl => ?_)
  refine lv_aload_n hx hb dX11_cut_7 rfl (lv_at hl 1 rfl) ?_
  refine q_get (v := .int 0) C inX11 hK hP 0 rfl rfl 10 (by decide) rfl L163 rfl dX11_cut_8 ?_
  refine lv_sipush (v := 400) hx hb dX11_cut_11 (by decide) ?_
  refine lv_icmp_gt (tgt := 294) hx hb dX11_cut_14 (by decide) (fun h => absurd h (by decide +kernel)) (fun _ => ?_)
  refine lv_aload_n hx hb dX11_cut_17 rfl (lv_at hl 1 rfl) ?_
  refine lv_iload_n hx hb dX11_cut_18 rfl (lv_at hl 0 rfl) ?_
  refine q_goiF (va_runV (As := [.int 0]) (rest := []) C (c_byteAt l dC dI cB cI cJ cZ cS h a (va_up v 10 0) f g hv4 _) (cwV 1 hts gX11_cut_X11_byteAt rfl rfl rfl (by decide +kernel) ⟨Nat.le_of_ble_eq_true rfl, Nat.le_of_ble_eq_true rfl⟩) (q_preV hK hP (ci := 11) (q0 := 0) rfl rfl rfl (q_preF hN hK hP hD)) rfl rfl hl.1 rfl (lv_room (Nat.le_of_ble_eq_true rfl)) dX11_cut_19 ⟨Nat.le_of_ble_eq_true rfl, Nat.le_of_ble_eq_true rfl⟩) hD hS hA (fun r w1 H locs hw hP hD hS => ?_)
  obtain ⟨rfl, rfl⟩ := hw
  refine lv_istore_n (lv' := [(2, .int 0), (1, .int 0), (0, .ref h)]) hx hb dX11_cut_22 rfl hl (by decide) rfl (fun ls hl => ?_)
  refine lv_iload_n hx hb dX11_cut_23 rfl (lv_at hl 1 rfl) ?_
  refine lv_aload_n hx hb dX11_cut_24 rfl (lv_at hl 2 rfl) ?_
  refine q_get (v := .int (v 4)) C inX11 hK hP 0 rfl rfl 4 (by decide) rfl L154 rfl dX11_cut_25 ?_
  refine q_top (y := 0) (hv4) ?_
  refine lv_icmp_lt (tgt := 43) hx hb dX11_cut_28 (by decide) (fun h => absurd h (by decide +kernel)) (fun _ => ?_)
  refine lv_aload_n hx hb dX11_cut_31 rfl (lv_at hl 2 rfl) ?_
  refine lv_iconst (v := 0) hx hb dX11_cut_32 (by decide) ?_
  refine lv_aload_n hx hb dX11_cut_33 rfl (lv_at hl 2 rfl) ?_
  refine q_get (v := .int (v 4)) C inX11 hK hP 0 rfl rfl 4 (by decide) rfl L154 rfl dX11_cut_34 ?_
  refine q_top (y := 0) (hv4) ?_
  refine lv_iconst (v := 0) hx hb dX11_cut_37 (by decide) ?_
  refine lv_lconst (v := 0) hx hb dX11_cut_38 (by decide) ?_
  refine q_govF (va_runV (As := [.int 0, .int 0, .int 0, .long 0]) (rest := []) C (c_token l dC dI cB cI cJ cZ cS h a (va_up v 10 0) f g rfl _) (cwV 4 hts gX11_cut_X11_token rfl rfl rfl (by decide +kernel) ⟨Nat.le_of_ble_eq_true rfl, Nat.le_of_ble_eq_true rfl⟩) (q_preV hK hP (ci := 11) (q0 := 0) rfl rfl rfl (q_preF hN hK hP hD)) rfl rfl hl.1 rfl (lv_room (Nat.le_of_ble_eq_true rfl)) dX11_cut_39 ⟨Nat.le_of_ble_eq_true rfl, Nat.le_of_ble_eq_true rfl⟩) hD hS hA (fun w1 H locs hw hP hD hS => ?_)
  obtain rfl := hw
  exact q_vret C hr hlocks hK hP hD hS (Nat.le_of_ble_eq_true rfl) (Nat.le_of_ble_eq_true rfl) dX11_cut_42 (rfl)

set_option maxHeartbeats 4000000 in
set_option maxRecDepth 100000 in
theorem c_is (l : Launch) (dC : Nat → ClassId) (dI : Nat → Nat → Nat) (cB cI cJ cZ cS : ClassId) (h : Nat) (a : Nat → Nat) (v : Nat → Int32) (f : Nat → Nat → Int32) (g : Nat → Nat → Int64) (hv13 : v 13 = 0) (hv11 : v 11 = 0) (hf5_0 : f 5 0 = 0) : CI l yX11_is wsX11_is ({ frames := 0, cells := 0, slots := 0, locals := 0 }) (dC, dI) (tysA cB cI cJ cZ cS) (mw cB cI cJ cZ h a v f g) [.ref h, .int 0] (fun r w => w = (mw cB cI cJ cZ h a v f g) ∧ r = 1) := by
  refine open_I (cc := cX11_is) (maxL := 2) (ret := (some .boolean)) (by decide) rfl (Nat.le_of_ble_eq_true rfl) ?_
  intro p e s m below meth c A ls E
  obtain ⟨C, hr, hlocks, hnm, hA, hP, hK, hD, hN, hl⟩ := E
  obtain ⟨hx, hb, hml, hown, hts⟩ := id C
  have hS : va_S A s.heap s.heap [] := va_S.rf
  have hl : lv_has ls 2 [(0, .ref h), (1, .int 0)] := hl
  have inX11 : ∀ w ∈ u_ws RX11 TX11 58, w ∈ wsX11_is := fun _ h => List.mem_cons_of_mem _ (List.mem_append_right _ h)
  have L185 : Cond.fieldLink RX11 185 "GuessFerryModel" "fault" "I" ∈ wsX11_is := by decide +kernel
  have L188 : Cond.fieldLink RX11 188 "GuessFerryModel" "t" "I" ∈ wsX11_is := by decide +kernel
  have L20 : Cond.fieldLink RX11 20 "GuessFerryModel" "tKind" "[I" ∈ wsX11_is := by decide +kernel
  refine lv_aload_n hx hb dX11_is_0 rfl (lv_at hl 0 rfl) ?_
  refine q_get (v := .int (v 13)) C inX11 hK hP 0 rfl rfl 13 (by decide) rfl L185 rfl dX11_is_1 ?_
  refine q_top (y := 0) (hv13) ?_
  refine lv_if_ne (tgt := 24) hx hb dX11_is_4 (by decide) (fun h => absurd (by decide +kernel) h) (fun _ => ?_)
  refine lv_aload_n hx hb dX11_is_7 rfl (lv_at hl 0 rfl) ?_
  refine q_get (v := .ref (a 5)) C inX11 hK hP 0 rfl rfl 5 (by decide) rfl L20 rfl dX11_is_8 ?_
  refine lv_aload_n hx hb dX11_is_11 rfl (lv_at hl 0 rfl) ?_
  refine q_get (v := .int (v 11)) C inX11 hK hP 0 rfl rfl 11 (by decide) rfl L188 rfl dX11_is_12 ?_
  refine q_top (y := 0) (hv11) ?_
  refine q_iald (x := 0) C hK hP 3 1 rfl rfl (vp_lit (by decide +kernel)) dX11_is_15 (hf5_0) ?_
  refine lv_iload_n hx hb dX11_is_16 rfl (lv_at hl 1 rfl) ?_
  refine lv_icmp_ne (tgt := 24) hx hb dX11_is_17 (by decide) (fun h => absurd (by decide +kernel) h) (fun _ => ?_)
  refine lv_iconst (v := 1) hx hb dX11_is_20 (by decide) ?_
  refine lv_goto (tgt := 25) hx hb dX11_is_21 (by decide) ?_
  exact q_zret C hr hlocks (Or.inr rfl) hK hP hD hS (Nat.le_of_ble_eq_true rfl) (Nat.le_of_ble_eq_true rfl) dX11_is_25 (⟨rfl, rfl⟩)

set_option maxHeartbeats 4000000 in
set_option maxRecDepth 100000 in
theorem c_plain0 (l : Launch) (dC : Nat → ClassId) (dI : Nat → Nat → Nat) (cB cI cJ cZ cS : ClassId) (h : Nat) (a : Nat → Nat) (v : Nat → Int32) (f : Nat → Nat → Int32) (g : Nat → Nat → Int64)  : CV l yX11_plain wsX11_plain ({ frames := 0, cells := 0, slots := 0, locals := 0 }) (dC, dI) (tysA cB cI cJ cZ cS) (mw cB cI cJ cZ h a v f g) [.ref h, .int 0] (fun w => w = (mw cB cI cJ cZ h a v (va_up (va_up (va_up (va_up (va_up (va_up (va_up (va_up (va_up (va_up (va_up f 20 (upd (f 20) 0 0)) 23 (upd (f 23) 0 0)) 26 (upd (f 26) 0 0)) 27 (upd (f 27) 0 0)) 28 (upd (f 28) 0 0)) 27 (upd (upd (f 27) 0 0) 1 0)) 28 (upd (upd (f 28) 0 0) 1 0)) 27 (upd (upd (upd (f 27) 0 0) 1 0) 2 0)) 28 (upd (upd (upd (f 28) 0 0) 1 0) 2 0)) 27 (upd (upd (upd (upd (f 27) 0 0) 1 0) 2 0) 3 0)) 28 (upd (upd (upd (upd (f 28) 0 0) 1 0) 2 0) 3 0)) g)) := by
  refine open_V (cc := cX11_plain) (maxL := 3) (ret := none) (by decide) rfl (Nat.le_of_ble_eq_true rfl) ?_
  intro p e s m below meth c A ls E
  obtain ⟨C, hr, hlocks, hnm, hA, hP, hK, hD, hN, hl⟩ := E
  obtain ⟨hx, hb, hml, hown, hts⟩ := id C
  have hS : va_S A s.heap s.heap [] := va_S.rf
  have hl : lv_has ls 3 [(0, .ref h), (1, .int 0)] := hl
  have inX11 : ∀ w ∈ u_ws RX11 TX11 58, w ∈ wsX11_plain := fun _ h => List.mem_cons_of_mem _ (List.mem_append_right _ h)
  have L40 : Cond.fieldLink RX11 40 "GuessFerryModel" "waves" "[I" ∈ wsX11_plain := by decide +kernel
  have L49 : Cond.fieldLink RX11 49 "GuessFerryModel" "parties" "[I" ∈ wsX11_plain := by decide +kernel
  have L58 : Cond.fieldLink RX11 58 "GuessFerryModel" "seed" "[I" ∈ wsX11_plain := by decide +kernel
  have L61 : Cond.fieldLink RX11 61 "GuessFerryModel" "lawFirst" "[I" ∈ wsX11_plain := by decide +kernel
  have L64 : Cond.fieldLink RX11 64 "GuessFerryModel" "lawLast" "[I" ∈ wsX11_plain := by decide +kernel
  refine lv_aload_n hx hb dX11_plain_0 rfl (lv_at hl 0 rfl) ?_
  refine q_get (v := .ref (a 20)) C inX11 hK hP 0 rfl rfl 20 (by decide) rfl L40 rfl dX11_plain_1 ?_
  refine lv_iload_n hx hb dX11_plain_4 rfl (lv_at hl 1 rfl) ?_
  refine lv_iconst (v := 0) hx hb dX11_plain_5 (by decide) ?_
  refine q_iast (f2 := (upd (f 20) 0 0)) (w2 := (mw cB cI cJ cZ h a v (va_up f 20 (upd (f 20) 0 0)) g)) C hK hP hD hS 8 1 rfl rfl (vp_lit (by decide +kernel)) dX11_plain_6 rfl (mw_f20 _) (fun H locs hP hD hS => ?_)
  refine lv_aload_n hx hb dX11_plain_7 rfl (lv_at hl 0 rfl) ?_
  refine q_get (v := .ref (a 23)) C inX11 hK hP 0 rfl rfl 23 (by decide) rfl L49 rfl dX11_plain_8 ?_
  refine lv_iload_n hx hb dX11_plain_11 rfl (lv_at hl 1 rfl) ?_
  refine lv_iconst (v := 0) hx hb dX11_plain_12 (by decide) ?_
  refine q_iast (f2 := (upd (f 23) 0 0)) (w2 := (mw cB cI cJ cZ h a v (va_up (va_up f 20 (upd (f 20) 0 0)) 23 (upd (f 23) 0 0)) g)) C hK hP hD hS 11 1 rfl rfl (vp_lit (by decide +kernel)) dX11_plain_13 rfl (mw_f23 _) (fun H locs hP hD hS => ?_)
  refine lv_aload_n hx hb dX11_plain_14 rfl (lv_at hl 0 rfl) ?_
  refine q_get (v := .ref (a 26)) C inX11 hK hP 0 rfl rfl 26 (by decide) rfl L58 rfl dX11_plain_15 ?_
  refine lv_iload_n hx hb dX11_plain_18 rfl (lv_at hl 1 rfl) ?_
  refine lv_iconst (v := 0) hx hb dX11_plain_19 (by decide) ?_
  refine q_iast (f2 := (upd (f 26) 0 0)) (w2 := (mw cB cI cJ cZ h a v (va_up (va_up (va_up f 20 (upd (f 20) 0 0)) 23 (upd (f 23) 0 0)) 26 (upd (f 26) 0 0)) g)) C hK hP hD hS 14 1 rfl rfl (vp_lit (by decide +kernel)) dX11_plain_20 rfl (mw_f26 _) (fun H locs hP hD hS => ?_)
  refine lv_iconst (v := 0) hx hb dX11_plain_21 (by decide) ?_
  refine lv_istore_n (lv' := [(2, .int 0), (0, .ref h), (1, .int 0)]) hx hb dX11_plain_22 rfl hl (by decide) rfl (fun ls hl => ?_)
  refine lv_iload_n hx hb dX11_plain_23 rfl (lv_at hl 0 rfl) ?_
  refine lv_iconst (v := 4) hx hb dX11_plain_24 (by decide) ?_
  refine lv_icmp_ge (tgt := 56) hx hb dX11_plain_25 (by decide) (fun h => absurd h (by decide +kernel)) (fun _ => ?_)
  refine lv_aload_n hx hb dX11_plain_28 rfl (lv_at hl 1 rfl) ?_
  refine q_get (v := .ref (a 27)) C inX11 hK hP 0 rfl rfl 27 (by decide) rfl L61 rfl dX11_plain_29 ?_
  refine lv_iconst (v := 4) hx hb dX11_plain_32 (by decide) ?_
  refine lv_iload_n hx hb dX11_plain_33 rfl (lv_at hl 2 rfl) ?_
  refine lv_imul hx hb dX11_plain_34 ?_
  refine q_top (y := 0) (by decide +kernel) ?_
  refine lv_iload_n hx hb dX11_plain_35 rfl (lv_at hl 0 rfl) ?_
  refine lv_iadd hx hb dX11_plain_36 ?_
  refine q_top (y := 0) (by decide +kernel) ?_
  refine lv_iconst (v := 0) hx hb dX11_plain_37 (by decide) ?_
  refine q_iast (f2 := (upd (f 27) 0 0)) (w2 := (mw cB cI cJ cZ h a v (va_up (va_up (va_up (va_up f 20 (upd (f 20) 0 0)) 23 (upd (f 23) 0 0)) 26 (upd (f 26) 0 0)) 27 (upd (f 27) 0 0)) g)) C hK hP hD hS 15 1 rfl rfl (vp_lit (by decide +kernel)) dX11_plain_38 rfl (mw_f27 _) (fun H locs hP hD hS => ?_)
  refine lv_aload_n hx hb dX11_plain_39 rfl (lv_at hl 1 rfl) ?_
  refine q_get (v := .ref (a 28)) C inX11 hK hP 0 rfl rfl 28 (by decide) rfl L64 rfl dX11_plain_40 ?_
  refine lv_iconst (v := 4) hx hb dX11_plain_43 (by decide) ?_
  refine lv_iload_n hx hb dX11_plain_44 rfl (lv_at hl 2 rfl) ?_
  refine lv_imul hx hb dX11_plain_45 ?_
  refine q_top (y := 0) (by decide +kernel) ?_
  refine lv_iload_n hx hb dX11_plain_46 rfl (lv_at hl 0 rfl) ?_
  refine lv_iadd hx hb dX11_plain_47 ?_
  refine q_top (y := 0) (by decide +kernel) ?_
  refine lv_iconst (v := 0) hx hb dX11_plain_48 (by decide) ?_
  refine q_iast (f2 := (upd (f 28) 0 0)) (w2 := (mw cB cI cJ cZ h a v (va_up (va_up (va_up (va_up (va_up f 20 (upd (f 20) 0 0)) 23 (upd (f 23) 0 0)) 26 (upd (f 26) 0 0)) 27 (upd (f 27) 0 0)) 28 (upd (f 28) 0 0)) g)) C hK hP hD hS 16 1 rfl rfl (vp_lit (by decide +kernel)) dX11_plain_49 rfl (mw_f28 _) (fun H locs hP hD hS => ?_)
  refine lv_iinc (v := 1) (lv' := [(2, .int 1), (0, .ref h), (1, .int 0)]) hx hb dX11_plain_50 hl (k := 0) rfl (by decide +kernel) (by decide) rfl (fun ls hl => ?_)
  refine lv_goto (tgt := 23) hx hb dX11_plain_53 (by decide) ?_
  refine lv_iload_n hx hb dX11_plain_23 rfl (lv_at hl 0 rfl) ?_
  refine lv_iconst (v := 4) hx hb dX11_plain_24 (by decide) ?_
  refine lv_icmp_ge (tgt := 56) hx hb dX11_plain_25 (by decide) (fun h => absurd h (by decide +kernel)) (fun _ => ?_)
  refine lv_aload_n hx hb dX11_plain_28 rfl (lv_at hl 1 rfl) ?_
  refine q_get (v := .ref (a 27)) C inX11 hK hP 0 rfl rfl 27 (by decide) rfl L61 rfl dX11_plain_29 ?_
  refine lv_iconst (v := 4) hx hb dX11_plain_32 (by decide) ?_
  refine lv_iload_n hx hb dX11_plain_33 rfl (lv_at hl 2 rfl) ?_
  refine lv_imul hx hb dX11_plain_34 ?_
  refine q_top (y := 0) (by decide +kernel) ?_
  refine lv_iload_n hx hb dX11_plain_35 rfl (lv_at hl 0 rfl) ?_
  refine lv_iadd hx hb dX11_plain_36 ?_
  refine q_top (y := 1) (by decide +kernel) ?_
  refine lv_iconst (v := 0) hx hb dX11_plain_37 (by decide) ?_
  refine q_iast (f2 := (upd (upd (f 27) 0 0) 1 0)) (w2 := (mw cB cI cJ cZ h a v (va_up (va_up (va_up (va_up (va_up (va_up f 20 (upd (f 20) 0 0)) 23 (upd (f 23) 0 0)) 26 (upd (f 26) 0 0)) 27 (upd (f 27) 0 0)) 28 (upd (f 28) 0 0)) 27 (upd (upd (f 27) 0 0) 1 0)) g)) C hK hP hD hS 15 1 rfl rfl (vp_lit (by decide +kernel)) dX11_plain_38 rfl (mw_f27 _) (fun H locs hP hD hS => ?_)
  refine lv_aload_n hx hb dX11_plain_39 rfl (lv_at hl 1 rfl) ?_
  refine q_get (v := .ref (a 28)) C inX11 hK hP 0 rfl rfl 28 (by decide) rfl L64 rfl dX11_plain_40 ?_
  refine lv_iconst (v := 4) hx hb dX11_plain_43 (by decide) ?_
  refine lv_iload_n hx hb dX11_plain_44 rfl (lv_at hl 2 rfl) ?_
  refine lv_imul hx hb dX11_plain_45 ?_
  refine q_top (y := 0) (by decide +kernel) ?_
  refine lv_iload_n hx hb dX11_plain_46 rfl (lv_at hl 0 rfl) ?_
  refine lv_iadd hx hb dX11_plain_47 ?_
  refine q_top (y := 1) (by decide +kernel) ?_
  refine lv_iconst (v := 0) hx hb dX11_plain_48 (by decide) ?_
  refine q_iast (f2 := (upd (upd (f 28) 0 0) 1 0)) (w2 := (mw cB cI cJ cZ h a v (va_up (va_up (va_up (va_up (va_up (va_up (va_up f 20 (upd (f 20) 0 0)) 23 (upd (f 23) 0 0)) 26 (upd (f 26) 0 0)) 27 (upd (f 27) 0 0)) 28 (upd (f 28) 0 0)) 27 (upd (upd (f 27) 0 0) 1 0)) 28 (upd (upd (f 28) 0 0) 1 0)) g)) C hK hP hD hS 16 1 rfl rfl (vp_lit (by decide +kernel)) dX11_plain_49 rfl (mw_f28 _) (fun H locs hP hD hS => ?_)
  refine lv_iinc (v := 2) (lv' := [(2, .int 2), (0, .ref h), (1, .int 0)]) hx hb dX11_plain_50 hl (k := 0) rfl (by decide +kernel) (by decide) rfl (fun ls hl => ?_)
  refine lv_goto (tgt := 23) hx hb dX11_plain_53 (by decide) ?_
  refine lv_iload_n hx hb dX11_plain_23 rfl (lv_at hl 0 rfl) ?_
  refine lv_iconst (v := 4) hx hb dX11_plain_24 (by decide) ?_
  refine lv_icmp_ge (tgt := 56) hx hb dX11_plain_25 (by decide) (fun h => absurd h (by decide +kernel)) (fun _ => ?_)
  refine lv_aload_n hx hb dX11_plain_28 rfl (lv_at hl 1 rfl) ?_
  refine q_get (v := .ref (a 27)) C inX11 hK hP 0 rfl rfl 27 (by decide) rfl L61 rfl dX11_plain_29 ?_
  refine lv_iconst (v := 4) hx hb dX11_plain_32 (by decide) ?_
  refine lv_iload_n hx hb dX11_plain_33 rfl (lv_at hl 2 rfl) ?_
  refine lv_imul hx hb dX11_plain_34 ?_
  refine q_top (y := 0) (by decide +kernel) ?_
  refine lv_iload_n hx hb dX11_plain_35 rfl (lv_at hl 0 rfl) ?_
  refine lv_iadd hx hb dX11_plain_36 ?_
  refine q_top (y := 2) (by decide +kernel) ?_
  refine lv_iconst (v := 0) hx hb dX11_plain_37 (by decide) ?_
  refine q_iast (f2 := (upd (upd (upd (f 27) 0 0) 1 0) 2 0)) (w2 := (mw cB cI cJ cZ h a v (va_up (va_up (va_up (va_up (va_up (va_up (va_up (va_up f 20 (upd (f 20) 0 0)) 23 (upd (f 23) 0 0)) 26 (upd (f 26) 0 0)) 27 (upd (f 27) 0 0)) 28 (upd (f 28) 0 0)) 27 (upd (upd (f 27) 0 0) 1 0)) 28 (upd (upd (f 28) 0 0) 1 0)) 27 (upd (upd (upd (f 27) 0 0) 1 0) 2 0)) g)) C hK hP hD hS 15 1 rfl rfl (vp_lit (by decide +kernel)) dX11_plain_38 rfl (mw_f27 _) (fun H locs hP hD hS => ?_)
  refine lv_aload_n hx hb dX11_plain_39 rfl (lv_at hl 1 rfl) ?_
  refine q_get (v := .ref (a 28)) C inX11 hK hP 0 rfl rfl 28 (by decide) rfl L64 rfl dX11_plain_40 ?_
  refine lv_iconst (v := 4) hx hb dX11_plain_43 (by decide) ?_
  refine lv_iload_n hx hb dX11_plain_44 rfl (lv_at hl 2 rfl) ?_
  refine lv_imul hx hb dX11_plain_45 ?_
  refine q_top (y := 0) (by decide +kernel) ?_
  refine lv_iload_n hx hb dX11_plain_46 rfl (lv_at hl 0 rfl) ?_
  refine lv_iadd hx hb dX11_plain_47 ?_
  refine q_top (y := 2) (by decide +kernel) ?_
  refine lv_iconst (v := 0) hx hb dX11_plain_48 (by decide) ?_
  refine q_iast (f2 := (upd (upd (upd (f 28) 0 0) 1 0) 2 0)) (w2 := (mw cB cI cJ cZ h a v (va_up (va_up (va_up (va_up (va_up (va_up (va_up (va_up (va_up f 20 (upd (f 20) 0 0)) 23 (upd (f 23) 0 0)) 26 (upd (f 26) 0 0)) 27 (upd (f 27) 0 0)) 28 (upd (f 28) 0 0)) 27 (upd (upd (f 27) 0 0) 1 0)) 28 (upd (upd (f 28) 0 0) 1 0)) 27 (upd (upd (upd (f 27) 0 0) 1 0) 2 0)) 28 (upd (upd (upd (f 28) 0 0) 1 0) 2 0)) g)) C hK hP hD hS 16 1 rfl rfl (vp_lit (by decide +kernel)) dX11_plain_49 rfl (mw_f28 _) (fun H locs hP hD hS => ?_)
  refine lv_iinc (v := 3) (lv' := [(2, .int 3), (0, .ref h), (1, .int 0)]) hx hb dX11_plain_50 hl (k := 0) rfl (by decide +kernel) (by decide) rfl (fun ls hl => ?_)
  refine lv_goto (tgt := 23) hx hb dX11_plain_53 (by decide) ?_
  refine lv_iload_n hx hb dX11_plain_23 rfl (lv_at hl 0 rfl) ?_
  refine lv_iconst (v := 4) hx hb dX11_plain_24 (by decide) ?_
  refine lv_icmp_ge (tgt := 56) hx hb dX11_plain_25 (by decide) (fun h => absurd h (by decide +kernel)) (fun _ => ?_)
  refine lv_aload_n hx hb dX11_plain_28 rfl (lv_at hl 1 rfl) ?_
  refine q_get (v := .ref (a 27)) C inX11 hK hP 0 rfl rfl 27 (by decide) rfl L61 rfl dX11_plain_29 ?_
  refine lv_iconst (v := 4) hx hb dX11_plain_32 (by decide) ?_
  refine lv_iload_n hx hb dX11_plain_33 rfl (lv_at hl 2 rfl) ?_
  refine lv_imul hx hb dX11_plain_34 ?_
  refine q_top (y := 0) (by decide +kernel) ?_
  refine lv_iload_n hx hb dX11_plain_35 rfl (lv_at hl 0 rfl) ?_
  refine lv_iadd hx hb dX11_plain_36 ?_
  refine q_top (y := 3) (by decide +kernel) ?_
  refine lv_iconst (v := 0) hx hb dX11_plain_37 (by decide) ?_
  refine q_iast (f2 := (upd (upd (upd (upd (f 27) 0 0) 1 0) 2 0) 3 0)) (w2 := (mw cB cI cJ cZ h a v (va_up (va_up (va_up (va_up (va_up (va_up (va_up (va_up (va_up (va_up f 20 (upd (f 20) 0 0)) 23 (upd (f 23) 0 0)) 26 (upd (f 26) 0 0)) 27 (upd (f 27) 0 0)) 28 (upd (f 28) 0 0)) 27 (upd (upd (f 27) 0 0) 1 0)) 28 (upd (upd (f 28) 0 0) 1 0)) 27 (upd (upd (upd (f 27) 0 0) 1 0) 2 0)) 28 (upd (upd (upd (f 28) 0 0) 1 0) 2 0)) 27 (upd (upd (upd (upd (f 27) 0 0) 1 0) 2 0) 3 0)) g)) C hK hP hD hS 15 1 rfl rfl (vp_lit (by decide +kernel)) dX11_plain_38 rfl (mw_f27 _) (fun H locs hP hD hS => ?_)
  refine lv_aload_n hx hb dX11_plain_39 rfl (lv_at hl 1 rfl) ?_
  refine q_get (v := .ref (a 28)) C inX11 hK hP 0 rfl rfl 28 (by decide) rfl L64 rfl dX11_plain_40 ?_
  refine lv_iconst (v := 4) hx hb dX11_plain_43 (by decide) ?_
  refine lv_iload_n hx hb dX11_plain_44 rfl (lv_at hl 2 rfl) ?_
  refine lv_imul hx hb dX11_plain_45 ?_
  refine q_top (y := 0) (by decide +kernel) ?_
  refine lv_iload_n hx hb dX11_plain_46 rfl (lv_at hl 0 rfl) ?_
  refine lv_iadd hx hb dX11_plain_47 ?_
  refine q_top (y := 3) (by decide +kernel) ?_
  refine lv_iconst (v := 0) hx hb dX11_plain_48 (by decide) ?_
  refine q_iast (f2 := (upd (upd (upd (upd (f 28) 0 0) 1 0) 2 0) 3 0)) (w2 := (mw cB cI cJ cZ h a v (va_up (va_up (va_up (va_up (va_up (va_up (va_up (va_up (va_up (va_up (va_up f 20 (upd (f 20) 0 0)) 23 (upd (f 23) 0 0)) 26 (upd (f 26) 0 0)) 27 (upd (f 27) 0 0)) 28 (upd (f 28) 0 0)) 27 (upd (upd (f 27) 0 0) 1 0)) 28 (upd (upd (f 28) 0 0) 1 0)) 27 (upd (upd (upd (f 27) 0 0) 1 0) 2 0)) 28 (upd (upd (upd (f 28) 0 0) 1 0) 2 0)) 27 (upd (upd (upd (upd (f 27) 0 0) 1 0) 2 0) 3 0)) 28 (upd (upd (upd (upd (f 28) 0 0) 1 0) 2 0) 3 0)) g)) C hK hP hD hS 16 1 rfl rfl (vp_lit (by decide +kernel)) dX11_plain_49 rfl (mw_f28 _) (fun H locs hP hD hS => ?_)
  refine lv_iinc (v := 4) (lv' := [(2, .int 4), (0, .ref h), (1, .int 0)]) hx hb dX11_plain_50 hl (k := 0) rfl (by decide +kernel) (by decide) rfl (fun ls hl => ?_)
  refine lv_goto (tgt := 23) hx hb dX11_plain_53 (by decide) ?_
  refine lv_iload_n hx hb dX11_plain_23 rfl (lv_at hl 0 rfl) ?_
  refine lv_iconst (v := 4) hx hb dX11_plain_24 (by decide) ?_
  refine lv_icmp_ge (tgt := 56) hx hb dX11_plain_25 (by decide) (fun _ => ?_) (fun h => absurd (by decide +kernel) h)
  exact q_vret C hr hlocks hK hP hD hS (Nat.le_of_ble_eq_true rfl) (Nat.le_of_ble_eq_true rfl) dX11_plain_56 (rfl)
