theorem dX2_fillRow_0 : decode cX2_fillRow 0 = .ok (.iconst 1, 1) := by decide +kernel
theorem dX2_fillRow_1 : decode cX2_fillRow 1 = .ok (.istore 5, 2) := by decide +kernel
theorem dX2_fillRow_3 : decode cX2_fillRow 3 = .ok (.aload_n 2, 1) := by decide +kernel
theorem dX2_fillRow_4 : decode cX2_fillRow 4 = .ok (.iconst 0, 1) := by decide +kernel
theorem dX2_fillRow_5 : decode cX2_fillRow 5 = .ok (.iconst 1, 1) := by decide +kernel
theorem dX2_fillRow_6 : decode cX2_fillRow 6 = .ok (.iastore, 1) := by decide +kernel
theorem dX2_fillRow_7 : decode cX2_fillRow 7 = .ok (.iload_n 3, 1) := by decide +kernel
theorem dX2_fillRow_8 : decode cX2_fillRow 8 = .ok (.istore 6, 2) := by decide +kernel
theorem dX2_fillRow_10 : decode cX2_fillRow 10 = .ok (.iload 6, 2) := by decide +kernel
theorem dX2_fillRow_12 : decode cX2_fillRow 12 = .ok (.iload 4, 2) := by decide +kernel
theorem dX2_fillRow_14 : decode cX2_fillRow 14 = .ok (.if_icmp .ge 74, 3) := by decide +kernel
theorem dX2_fillRow_88 : decode cX2_fillRow 88 = .ok (.iload 5, 2) := by decide +kernel
theorem dX2_fillRow_90 : decode cX2_fillRow 90 = .ok (.ireturn, 1) := by decide +kernel
set_option maxRecDepth 20000 in
theorem ggX2_fillNear_X2_fillRow : GoodIn wsX2_fillNear wsX2_fillRow := goodIn_r _ [11, 12, 13, 14, 10, 15, 16, 2, 17, 18, 19, 20, 21, 22, 23, 24, 25, 26, 27, 28, 29, 30, 31, 32, 33, 34, 35, 46, 47, 48, 49, 50, 51, 52, 53, 54, 36, 37, 38, 39, 40, 41, 42, 43, 44, 45] (by decide +kernel) (by decide +kernel)
set_option maxRecDepth 20000 in
theorem gX2_fillNear_X2_fillRow : GoodIn wsX2_fillNear (wsV RX2 90 RX2 yX2_fillRow wsX2_fillRow) := goodIn_app (goodIn_of _ (by decide +kernel)) ggX2_fillNear_X2_fillRow
theorem dX2_fillNear_0 : decode cX2_fillNear 0 = .ok (.aload_n 0, 1) := by decide +kernel
theorem dX2_fillNear_1 : decode cX2_fillNear 1 = .ok (.aload_n 1, 1) := by decide +kernel
theorem dX2_fillNear_2 : decode cX2_fillNear 2 = .ok (.aload_n 0, 1) := by decide +kernel
theorem dX2_fillNear_3 : decode cX2_fillNear 3 = .ok (.getfield 9, 3) := by decide +kernel
theorem dX2_fillNear_6 : decode cX2_fillNear 6 = .ok (.iconst 0, 1) := by decide +kernel
theorem dX2_fillNear_7 : decode cX2_fillNear 7 = .ok (.iconst 3, 1) := by decide +kernel
theorem dX2_fillNear_8 : decode cX2_fillNear 8 = .ok (.aload_n 0, 1) := by decide +kernel
theorem dX2_fillNear_9 : decode cX2_fillNear 9 = .ok (.getfield 24, 3) := by decide +kernel
theorem dX2_fillNear_12 : decode cX2_fillNear 12 = .ok (.getfield 44, 3) := by decide +kernel
theorem dX2_fillNear_15 : decode cX2_fillNear 15 = .ok (.invokestatic 87, 3) := by decide +kernel
theorem dX2_fillNear_18 : decode cX2_fillNear 18 = .ok (.invokevirtual 90, 3) := by decide +kernel
theorem dX2_fillNear_21 : decode cX2_fillNear 21 = .ok (.ireturn, 1) := by decide +kernel
set_option maxRecDepth 20000 in
theorem ggX2_fillFar_X2_fillRow : GoodIn wsX2_fillFar wsX2_fillRow := goodIn_r _ [7, 8, 9, 10, 6, 11, 12, 2, 13, 14, 15, 16, 17, 18, 19, 20, 21, 22, 23, 24, 25, 26, 27, 28, 29, 30, 31, 42, 43, 44, 45, 46, 47, 48, 49, 50, 32, 33, 34, 35, 36, 37, 38, 39, 40, 41] (by decide +kernel) (by decide +kernel)
set_option maxRecDepth 20000 in
theorem gX2_fillFar_X2_fillRow : GoodIn wsX2_fillFar (wsV RX2 90 RX2 yX2_fillRow wsX2_fillRow) := goodIn_app (goodIn_of _ (by decide +kernel)) ggX2_fillFar_X2_fillRow
theorem dX2_fillFar_0 : decode cX2_fillFar 0 = .ok (.aload_n 0, 1) := by decide +kernel
theorem dX2_fillFar_1 : decode cX2_fillFar 1 = .ok (.aload_n 1, 1) := by decide +kernel
theorem dX2_fillFar_2 : decode cX2_fillFar 2 = .ok (.aload_n 0, 1) := by decide +kernel
theorem dX2_fillFar_3 : decode cX2_fillFar 3 = .ok (.getfield 15, 3) := by decide +kernel
theorem dX2_fillFar_6 : decode cX2_fillFar 6 = .ok (.iconst 3, 1) := by decide +kernel
theorem dX2_fillFar_7 : decode cX2_fillFar 7 = .ok (.aload_n 0, 1) := by decide +kernel
theorem dX2_fillFar_8 : decode cX2_fillFar 8 = .ok (.getfield 24, 3) := by decide +kernel
theorem dX2_fillFar_11 : decode cX2_fillFar 11 = .ok (.getfield 44, 3) := by decide +kernel
theorem dX2_fillFar_14 : decode cX2_fillFar 14 = .ok (.invokevirtual 90, 3) := by decide +kernel
theorem dX2_fillFar_17 : decode cX2_fillFar 17 = .ok (.ireturn, 1) := by decide +kernel
set_option maxRecDepth 20000 in
theorem ggX2_casesAheadOf_X2_fillNear : GoodIn wsX2_casesAheadOf wsX2_fillNear := goodIn_r _ [7, 2, 8, 9, 10, 11, 12, 13, 14, 15, 6, 16, 17, 18, 19, 20, 21, 22, 23, 24, 25, 26, 27, 28, 29, 30, 31, 32, 33, 34, 39, 40, 41, 42, 43, 44, 45, 46, 47, 48, 49, 50, 51, 52, 53, 54, 55, 56, 57, 58, 59, 60, 61, 62, 63] (by decide +kernel) (by decide +kernel)
set_option maxRecDepth 20000 in
theorem gX2_casesAheadOf_X2_fillNear : GoodIn wsX2_casesAheadOf (wsV RX2 94 RX2 yX2_fillNear wsX2_fillNear) := goodIn_app (goodIn_of _ (by decide +kernel)) ggX2_casesAheadOf_X2_fillNear
set_option maxRecDepth 20000 in
theorem ggX2_casesAheadOf_X2_fillFar : GoodIn wsX2_casesAheadOf wsX2_fillFar := goodIn_r _ [38, 1, 8, 13, 14, 15, 6, 16, 17, 18, 19, 20, 21, 22, 23, 24, 25, 26, 27, 28, 29, 30, 31, 32, 33, 34, 39, 40, 41, 42, 43, 44, 45, 46, 47, 48, 49, 50, 51, 52, 53, 54, 55, 56, 57, 58, 59, 60, 61, 62, 63] (by decide +kernel) (by decide +kernel)
set_option maxRecDepth 20000 in
theorem gX2_casesAheadOf_X2_fillFar : GoodIn wsX2_casesAheadOf (wsV RX2 98 RX2 yX2_fillFar wsX2_fillFar) := goodIn_app (goodIn_of _ (by decide +kernel)) ggX2_casesAheadOf_X2_fillFar
theorem dX2_casesAheadOf_0 : decode cX2_casesAheadOf 0 = .ok (.aload_n 0, 1) := by decide +kernel
theorem dX2_casesAheadOf_1 : decode cX2_casesAheadOf 1 = .ok (.aload_n 1, 1) := by decide +kernel
theorem dX2_casesAheadOf_2 : decode cX2_casesAheadOf 2 = .ok (.invokevirtual 94, 3) := by decide +kernel
theorem dX2_casesAheadOf_5 : decode cX2_casesAheadOf 5 = .ok (.istore 4, 2) := by decide +kernel
theorem dX2_casesAheadOf_7 : decode cX2_casesAheadOf 7 = .ok (.aload_n 0, 1) := by decide +kernel
theorem dX2_casesAheadOf_8 : decode cX2_casesAheadOf 8 = .ok (.aload_n 1, 1) := by decide +kernel
theorem dX2_casesAheadOf_9 : decode cX2_casesAheadOf 9 = .ok (.invokevirtual 98, 3) := by decide +kernel
theorem dX2_casesAheadOf_12 : decode cX2_casesAheadOf 12 = .ok (.istore 5, 2) := by decide +kernel
theorem dX2_casesAheadOf_14 : decode cX2_casesAheadOf 14 = .ok (.iconst 0, 1) := by decide +kernel
theorem dX2_casesAheadOf_15 : decode cX2_casesAheadOf 15 = .ok (.istore 6, 2) := by decide +kernel
theorem dX2_casesAheadOf_17 : decode cX2_casesAheadOf 17 = .ok (.iconst 0, 1) := by decide +kernel
theorem dX2_casesAheadOf_18 : decode cX2_casesAheadOf 18 = .ok (.istore 7, 2) := by decide +kernel
theorem dX2_casesAheadOf_20 : decode cX2_casesAheadOf 20 = .ok (.iconst 0, 1) := by decide +kernel
theorem dX2_casesAheadOf_21 : decode cX2_casesAheadOf 21 = .ok (.istore 8, 2) := by decide +kernel
theorem dX2_casesAheadOf_23 : decode cX2_casesAheadOf 23 = .ok (.iload 8, 2) := by decide +kernel
theorem dX2_casesAheadOf_25 : decode cX2_casesAheadOf 25 = .ok (.iload 5, 2) := by decide +kernel
theorem dX2_casesAheadOf_27 : decode cX2_casesAheadOf 27 = .ok (.if_icmp .ge 66, 3) := by decide +kernel
theorem dX2_casesAheadOf_30 : decode cX2_casesAheadOf 30 = .ok (.iconst 0, 1) := by decide +kernel
theorem dX2_casesAheadOf_31 : decode cX2_casesAheadOf 31 = .ok (.istore 9, 2) := by decide +kernel
theorem dX2_casesAheadOf_33 : decode cX2_casesAheadOf 33 = .ok (.iload 9, 2) := by decide +kernel
theorem dX2_casesAheadOf_35 : decode cX2_casesAheadOf 35 = .ok (.iload 4, 2) := by decide +kernel
theorem dX2_casesAheadOf_37 : decode cX2_casesAheadOf 37 = .ok (.if_icmp .ge 50, 3) := by decide +kernel
theorem dX2_casesAheadOf_40 : decode cX2_casesAheadOf 40 = .ok (.aload_n 0, 1) := by decide +kernel
theorem dX2_casesAheadOf_41 : decode cX2_casesAheadOf 41 = .ok (.getfield 15, 3) := by decide +kernel
theorem dX2_casesAheadOf_44 : decode cX2_casesAheadOf 44 = .ok (.iload 8, 2) := by decide +kernel
theorem dX2_casesAheadOf_46 : decode cX2_casesAheadOf 46 = .ok (.iaload, 1) := by decide +kernel
theorem dX2_casesAheadOf_47 : decode cX2_casesAheadOf 47 = .ok (.aload_n 0, 1) := by decide +kernel
theorem dX2_casesAheadOf_48 : decode cX2_casesAheadOf 48 = .ok (.getfield 9, 3) := by decide +kernel
theorem dX2_casesAheadOf_51 : decode cX2_casesAheadOf 51 = .ok (.iload 9, 2) := by decide +kernel
theorem dX2_casesAheadOf_53 : decode cX2_casesAheadOf 53 = .ok (.iaload, 1) := by decide +kernel
theorem dX2_casesAheadOf_54 : decode cX2_casesAheadOf 54 = .ok (.imul, 1) := by decide +kernel
theorem dX2_casesAheadOf_55 : decode cX2_casesAheadOf 55 = .ok (.istore 10, 2) := by decide +kernel
theorem dX2_casesAheadOf_57 : decode cX2_casesAheadOf 57 = .ok (.iload 10, 2) := by decide +kernel
theorem dX2_casesAheadOf_59 : decode cX2_casesAheadOf 59 = .ok (.iload_n 3, 1) := by decide +kernel
theorem dX2_casesAheadOf_60 : decode cX2_casesAheadOf 60 = .ok (.if_icmp .gt 15, 3) := by decide +kernel
theorem dX2_casesAheadOf_63 : decode cX2_casesAheadOf 63 = .ok (.iload 10, 2) := by decide +kernel
theorem dX2_casesAheadOf_65 : decode cX2_casesAheadOf 65 = .ok (.iload_n 3, 1) := by decide +kernel
theorem dX2_casesAheadOf_66 : decode cX2_casesAheadOf 66 = .ok (.if_icmp .ne 12, 3) := by decide +kernel
theorem dX2_casesAheadOf_69 : decode cX2_casesAheadOf 69 = .ok (.iload 7, 2) := by decide +kernel
theorem dX2_casesAheadOf_71 : decode cX2_casesAheadOf 71 = .ok (.iload_n 2, 1) := by decide +kernel
theorem dX2_casesAheadOf_72 : decode cX2_casesAheadOf 72 = .ok (.if_icmp .ge 6, 3) := by decide +kernel
theorem dX2_casesAheadOf_78 : decode cX2_casesAheadOf 78 = .ok (.iinc 7 1, 3) := by decide +kernel
theorem dX2_casesAheadOf_81 : decode cX2_casesAheadOf 81 = .ok (.iinc 9 1, 3) := by decide +kernel
theorem dX2_casesAheadOf_84 : decode cX2_casesAheadOf 84 = .ok (.goto (-51), 3) := by decide +kernel
theorem dX2_casesAheadOf_87 : decode cX2_casesAheadOf 87 = .ok (.iinc 8 1, 3) := by decide +kernel
theorem dX2_casesAheadOf_90 : decode cX2_casesAheadOf 90 = .ok (.goto (-67), 3) := by decide +kernel
theorem dX2_casesAheadOf_93 : decode cX2_casesAheadOf 93 = .ok (.iload 6, 2) := by decide +kernel
theorem dX2_casesAheadOf_95 : decode cX2_casesAheadOf 95 = .ok (.ireturn, 1) := by decide +kernel
set_option maxRecDepth 20000 in
theorem ggX10_wisest_X2_caseCount : GoodIn wsX10_wisest wsX2_caseCount := goodIn_r _ [6, 7, 8, 9, 10, 4, 11, 12, 13, 14, 15, 16, 17, 18, 19, 20, 21, 22, 23, 24, 53, 54, 55, 56, 57, 58, 59, 60, 61, 62, 63, 64, 65, 66, 67, 68, 69, 70, 71, 72, 73, 74, 75, 76, 77] (by decide +kernel) (by decide +kernel)
set_option maxRecDepth 20000 in
theorem gX10_wisest_X2_caseCount_n196 : GoodIn wsX10_wisest (wsX2_caseCount) := ggX10_wisest_X2_caseCount
set_option maxRecDepth 20000 in
theorem ggX10_wisest_X2_wisestGuess : GoodIn wsX10_wisest wsX2_wisestGuess := goodIn_r _ [27, 7, 12, 13, 14, 15, 16, 17, 28, 29, 20, 30, 31, 8, 9, 10, 4, 11, 18, 19, 21, 22, 23, 24, 53, 54, 55, 56, 57, 58, 59, 60, 61, 62, 63, 64, 65, 66, 67, 68, 69, 70, 71, 72, 73, 74, 75, 76, 77] (by decide +kernel) (by decide +kernel)
set_option maxRecDepth 20000 in
theorem gX10_wisest_X2_wisestGuess_n218 : GoodIn wsX10_wisest (wsX2_wisestGuess) := ggX10_wisest_X2_wisestGuess
set_option maxRecDepth 20000 in
theorem ggX10_wisest_X2_leftBehind : GoodIn wsX10_wisest wsX2_leftBehind := goodIn_r _ [34, 7, 12, 35, 36, 37, 38, 8, 9, 10, 4, 11, 13, 14, 15, 16, 17, 18, 19, 20, 21, 22, 23, 24, 39, 40, 41, 42, 43, 53, 54, 55, 56, 57, 58, 59, 60, 61, 62, 63, 64, 65, 66, 67, 68, 69, 70, 71, 72, 73, 74, 75, 76, 77] (by decide +kernel) (by decide +kernel)
set_option maxRecDepth 20000 in
theorem gX10_wisest_X2_leftBehind_n215 : GoodIn wsX10_wisest (wsX2_leftBehind) := ggX10_wisest_X2_leftBehind
theorem dX10_wisest_0 : decode cX10_wisest 0 = .ok (.iload_n 1, 1) := by decide +kernel
theorem dX10_wisest_1 : decode cX10_wisest 1 = .ok (.ifCond .eq 10, 3) := by decide +kernel
theorem dX10_wisest_4 : decode cX10_wisest 4 = .ok (.iload_n 1, 1) := by decide +kernel
theorem dX10_wisest_5 : decode cX10_wisest 5 = .ok (.iconst 1, 1) := by decide +kernel
theorem dX10_wisest_6 : decode cX10_wisest 6 = .ok (.if_icmp .eq 5, 3) := by decide +kernel
theorem dX10_wisest_9 : decode cX10_wisest 9 = .ok (.iconst (-1), 1) := by decide +kernel
theorem dX10_wisest_10 : decode cX10_wisest 10 = .ok (.ireturn, 1) := by decide +kernel
theorem dX10_wisest_11 : decode cX10_wisest 11 = .ok (.aload_n 0, 1) := by decide +kernel
theorem dX10_wisest_12 : decode cX10_wisest 12 = .ok (.getfield 63, 3) := by decide +kernel
theorem dX10_wisest_15 : decode cX10_wisest 15 = .ok (.aload_n 0, 1) := by decide +kernel
theorem dX10_wisest_16 : decode cX10_wisest 16 = .ok (.getfield 35, 3) := by decide +kernel
theorem dX10_wisest_19 : decode cX10_wisest 19 = .ok (.invokevirtual 196, 3) := by decide +kernel
theorem dX10_wisest_22 : decode cX10_wisest 22 = .ok (.ifCond .ne 6, 3) := by decide +kernel
theorem dX10_wisest_28 : decode cX10_wisest 28 = .ok (.aload_n 0, 1) := by decide +kernel
theorem dX10_wisest_29 : decode cX10_wisest 29 = .ok (.getfield 63, 3) := by decide +kernel
theorem dX10_wisest_32 : decode cX10_wisest 32 = .ok (.aload_n 0, 1) := by decide +kernel
theorem dX10_wisest_33 : decode cX10_wisest 33 = .ok (.getfield 35, 3) := by decide +kernel
theorem dX10_wisest_36 : decode cX10_wisest 36 = .ok (.invokevirtual 218, 3) := by decide +kernel
theorem dX10_wisest_39 : decode cX10_wisest 39 = .ok (.istore_n 2, 1) := by decide +kernel
theorem dX10_wisest_40 : decode cX10_wisest 40 = .ok (.iload_n 1, 1) := by decide +kernel
theorem dX10_wisest_41 : decode cX10_wisest 41 = .ok (.ifCond .ne 7, 3) := by decide +kernel
theorem dX10_wisest_44 : decode cX10_wisest 44 = .ok (.iload_n 2, 1) := by decide +kernel
theorem dX10_wisest_45 : decode cX10_wisest 45 = .ok (.goto 15, 3) := by decide +kernel
theorem dX10_wisest_48 : decode cX10_wisest 48 = .ok (.aload_n 0, 1) := by decide +kernel
theorem dX10_wisest_49 : decode cX10_wisest 49 = .ok (.getfield 63, 3) := by decide +kernel
theorem dX10_wisest_52 : decode cX10_wisest 52 = .ok (.aload_n 0, 1) := by decide +kernel
theorem dX10_wisest_53 : decode cX10_wisest 53 = .ok (.getfield 35, 3) := by decide +kernel
theorem dX10_wisest_56 : decode cX10_wisest 56 = .ok (.iload_n 2, 1) := by decide +kernel
theorem dX10_wisest_57 : decode cX10_wisest 57 = .ok (.invokevirtual 215, 3) := by decide +kernel
theorem dX10_wisest_60 : decode cX10_wisest 60 = .ok (.ireturn, 1) := by decide +kernel
set_option maxRecDepth 20000 in
theorem ggX10_rank_X5_hasGuess : GoodIn wsX10_rank wsX5_hasGuess := goodIn_r _ [7, 8, 63, 64, 65, 66, 67, 68, 69, 70, 71, 72] (by decide +kernel) (by decide +kernel)
set_option maxRecDepth 20000 in
theorem gX10_rank_X5_hasGuess_n170 : GoodIn wsX10_rank (wsX5_hasGuess) := ggX10_rank_X5_hasGuess
set_option maxRecDepth 20000 in
theorem ggX10_rank_X2_oddsOf : GoodIn wsX10_rank wsX2_oddsOf := goodIn_r _ [12, 13, 14, 15, 16, 17, 18, 19, 10, 20, 21, 22, 23, 24, 25, 26, 27, 28, 29, 5, 30, 31, 32, 73, 74, 75, 76, 77, 78, 63, 64, 65, 66, 67, 68, 69, 70, 71, 72, 79, 80, 81, 82, 83, 84, 85, 86, 87] (by decide +kernel) (by decide +kernel)
set_option maxRecDepth 20000 in
theorem gX10_rank_X2_oddsOf_n200 : GoodIn wsX10_rank (wsX2_oddsOf) := ggX10_rank_X2_oddsOf
set_option maxRecDepth 20000 in
theorem ggX10_rank_X2_casesAheadOf : GoodIn wsX10_rank wsX2_casesAheadOf := goodIn_r _ [35, 36, 37, 38, 39, 40, 10, 41, 13, 42, 43, 44, 45, 46, 47, 48, 49, 17, 18, 19, 20, 21, 22, 23, 24, 25, 26, 27, 15, 28, 29, 5, 30, 31, 32, 50, 51, 52, 53, 73, 74, 75, 76, 77, 78, 63, 64, 65, 66, 67, 68, 69, 70, 71, 72, 79, 80, 81, 82, 83, 84, 85, 86, 87] (by decide +kernel) (by decide +kernel)
set_option maxRecDepth 20000 in
theorem gX10_rank_X2_casesAheadOf_n221 : GoodIn wsX10_rank (wsX2_casesAheadOf) := ggX10_rank_X2_casesAheadOf
theorem dX10_rank_0 : decode cX10_rank 0 = .ok (.aload_n 0, 1) := by decide +kernel
theorem dX10_rank_1 : decode cX10_rank 1 = .ok (.getfield 19, 3) := by decide +kernel
theorem dX10_rank_4 : decode cX10_rank 4 = .ok (.iload_n 1, 1) := by decide +kernel
theorem dX10_rank_5 : decode cX10_rank 5 = .ok (.invokevirtual 170, 3) := by decide +kernel
theorem dX10_rank_8 : decode cX10_rank 8 = .ok (.ifCond .ne 5, 3) := by decide +kernel
theorem dX10_rank_11 : decode cX10_rank 11 = .ok (.iconst (-1), 1) := by decide +kernel
theorem dX10_rank_12 : decode cX10_rank 12 = .ok (.ireturn, 1) := by decide +kernel
theorem dX10_rank_13 : decode cX10_rank 13 = .ok (.aload_n 0, 1) := by decide +kernel
theorem dX10_rank_14 : decode cX10_rank 14 = .ok (.getfield 63, 3) := by decide +kernel
theorem dX10_rank_17 : decode cX10_rank 17 = .ok (.aload_n 0, 1) := by decide +kernel
theorem dX10_rank_18 : decode cX10_rank 18 = .ok (.getfield 35, 3) := by decide +kernel
theorem dX10_rank_21 : decode cX10_rank 21 = .ok (.iload_n 1, 1) := by decide +kernel
theorem dX10_rank_22 : decode cX10_rank 22 = .ok (.invokevirtual 200, 3) := by decide +kernel
theorem dX10_rank_25 : decode cX10_rank 25 = .ok (.istore_n 2, 1) := by decide +kernel
theorem dX10_rank_26 : decode cX10_rank 26 = .ok (.iload_n 2, 1) := by decide +kernel
theorem dX10_rank_27 : decode cX10_rank 27 = .ok (.ifCond .ne 8, 3) := by decide +kernel
theorem dX10_rank_35 : decode cX10_rank 35 = .ok (.aload_n 0, 1) := by decide +kernel
theorem dX10_rank_36 : decode cX10_rank 36 = .ok (.getfield 63, 3) := by decide +kernel
theorem dX10_rank_39 : decode cX10_rank 39 = .ok (.aload_n 0, 1) := by decide +kernel
theorem dX10_rank_40 : decode cX10_rank 40 = .ok (.getfield 35, 3) := by decide +kernel
theorem dX10_rank_43 : decode cX10_rank 43 = .ok (.iload_n 1, 1) := by decide +kernel
theorem dX10_rank_44 : decode cX10_rank 44 = .ok (.iload_n 2, 1) := by decide +kernel
theorem dX10_rank_45 : decode cX10_rank 45 = .ok (.invokevirtual 221, 3) := by decide +kernel
theorem dX10_rank_48 : decode cX10_rank 48 = .ok (.ireturn, 1) := by decide +kernel
set_option maxHeartbeats 4000000 in
set_option maxRecDepth 100000 in
theorem k_fillRowNear (l : Launch) (dC : Nat → ClassId) (dI : Nat → Nat → Nat) (cB cI cJ cZ cS : ClassId) (q_now : Nat) (q_outlook : Nat) (q_near : Nat) (f_near : Nat → Int32) (u_outlook_0 : Value) (u_outlook_1 : Value) (u_outlook_2 : Value) (u_outlook_3 : Value) (u_outlook_4 : Value) (u_outlook_5 : Value) : CI l yX2_fillRow wsX2_fillRow ({ frames := 0, cells := 0, slots := 0, locals := 0 }) (dC, dI) (tysA cB cI cJ cZ cS) [(q_near, .inl (cI, 216, .inl f_near)), (q_outlook, .inr (2, [u_outlook_0, u_outlook_1, u_outlook_2, u_outlook_3, u_outlook_4, u_outlook_5]))] [.ref q_outlook, .ref q_now, .ref q_near, .int 0, .int 0] (fun r w => w = [(q_near, .inl (cI, 216, .inl (upd f_near 0 1))), (q_outlook, .inr (2, [u_outlook_0, u_outlook_1, u_outlook_2, u_outlook_3, u_outlook_4, u_outlook_5]))] ∧ r = 1) := by
  refine open_I (cc := cX2_fillRow) (maxL := 10) (ret := (some .int)) (by decide) rfl (Nat.le_of_ble_eq_true rfl) ?_
  intro p e s m below meth c A ls E
  obtain ⟨C, hr, hlocks, hnm, hA, hP, hK, hD, hN, hl⟩ := E
  obtain ⟨hx, hb, hml, hown, hts⟩ := id C
  have hS : va_S A s.heap s.heap [] := va_S.rf
  have hl : lv_has ls 10 [(0, .ref q_outlook), (1, .ref q_now), (2, .ref q_near), (3, .int 0), (4, .int 0)] := hl
  refine lv_iconst (v := 1) hx hb dX2_fillRow_0 (by decide) ?_
  refine lv_istore (lv' := [(5, .int 1), (0, .ref q_outlook), (1, .ref q_now), (2, .ref q_near), (3, .int 0), (4, .int 0)]) hx hb dX2_fillRow_1 hl (by decide) rfl (fun ls hl => ?_)
  refine lv_aload_n hx hb dX2_fillRow_3 rfl (lv_at hl 3 rfl) ?_
  refine lv_iconst (v := 0) hx hb dX2_fillRow_4 (by decide) ?_
  refine lv_iconst (v := 1) hx hb dX2_fillRow_5 (by decide) ?_
  refine q_iast (f2 := (upd f_near 0 1)) (w2 := [(q_near, .inl (cI, 216, .inl (upd f_near 0 1))), (q_outlook, .inr (2, [u_outlook_0, u_outlook_1, u_outlook_2, u_outlook_3, u_outlook_4, u_outlook_5]))]) C hK hP hD hS 0 1 rfl rfl (vp_lit (by decide +kernel)) dX2_fillRow_6 rfl rfl (fun H locs hP hD hS => ?_)
  refine lv_iload_n hx hb dX2_fillRow_7 rfl (lv_at hl 4 rfl) ?_
  refine lv_istore (lv' := [(6, .int 0), (5, .int 1), (0, .ref q_outlook), (1, .ref q_now), (2, .ref q_near), (3, .int 0), (4, .int 0)]) hx hb dX2_fillRow_8 hl (by decide) rfl (fun ls hl => ?_)
  refine lv_iload hx hb dX2_fillRow_10 (lv_at hl 0 rfl) ?_
  refine lv_iload hx hb dX2_fillRow_12 (lv_at hl 6 rfl) ?_
  refine lv_icmp_ge (tgt := 88) hx hb dX2_fillRow_14 (by decide) (fun _ => ?_) (fun h => absurd (by decide +kernel) h)
  refine lv_iload hx hb dX2_fillRow_88 (lv_at hl 1 rfl) ?_
  exact q_iret C hr hlocks hK hP hD hS (Nat.le_of_ble_eq_true rfl) (Nat.le_of_ble_eq_true rfl) dX2_fillRow_90 (⟨rfl, rfl⟩)

set_option maxHeartbeats 4000000 in
set_option maxRecDepth 100000 in
theorem k_fillRowFar (l : Launch) (dC : Nat → ClassId) (dI : Nat → Nat → Nat) (cB cI cJ cZ cS : ClassId) (q_now : Nat) (q_outlook : Nat) (q_far : Nat) (f_far : Nat → Int32) (u_outlook_0 : Value) (u_outlook_1 : Value) (u_outlook_2 : Value) (u_outlook_3 : Value) (u_outlook_4 : Value) (u_outlook_5 : Value) : CI l yX2_fillRow wsX2_fillRow ({ frames := 0, cells := 0, slots := 0, locals := 0 }) (dC, dI) (tysA cB cI cJ cZ cS) [(q_far, .inl (cI, 36, .inl f_far)), (q_outlook, .inr (2, [u_outlook_0, u_outlook_1, u_outlook_2, u_outlook_3, u_outlook_4, u_outlook_5]))] [.ref q_outlook, .ref q_now, .ref q_far, .int 3, .int 0] (fun r w => w = [(q_far, .inl (cI, 36, .inl (upd f_far 0 1))), (q_outlook, .inr (2, [u_outlook_0, u_outlook_1, u_outlook_2, u_outlook_3, u_outlook_4, u_outlook_5]))] ∧ r = 1) := by
  refine open_I (cc := cX2_fillRow) (maxL := 10) (ret := (some .int)) (by decide) rfl (Nat.le_of_ble_eq_true rfl) ?_
  intro p e s m below meth c A ls E
  obtain ⟨C, hr, hlocks, hnm, hA, hP, hK, hD, hN, hl⟩ := E
  obtain ⟨hx, hb, hml, hown, hts⟩ := id C
  have hS : va_S A s.heap s.heap [] := va_S.rf
  have hl : lv_has ls 10 [(0, .ref q_outlook), (1, .ref q_now), (2, .ref q_far), (3, .int 3), (4, .int 0)] := hl
  refine lv_iconst (v := 1) hx hb dX2_fillRow_0 (by decide) ?_
  refine lv_istore (lv' := [(5, .int 1), (0, .ref q_outlook), (1, .ref q_now), (2, .ref q_far), (3, .int 3), (4, .int 0)]) hx hb dX2_fillRow_1 hl (by decide) rfl (fun ls hl => ?_)
  refine lv_aload_n hx hb dX2_fillRow_3 rfl (lv_at hl 3 rfl) ?_
  refine lv_iconst (v := 0) hx hb dX2_fillRow_4 (by decide) ?_
  refine lv_iconst (v := 1) hx hb dX2_fillRow_5 (by decide) ?_
  refine q_iast (f2 := (upd f_far 0 1)) (w2 := [(q_far, .inl (cI, 36, .inl (upd f_far 0 1))), (q_outlook, .inr (2, [u_outlook_0, u_outlook_1, u_outlook_2, u_outlook_3, u_outlook_4, u_outlook_5]))]) C hK hP hD hS 0 1 rfl rfl (vp_lit (by decide +kernel)) dX2_fillRow_6 rfl rfl (fun H locs hP hD hS => ?_)
  refine lv_iload_n hx hb dX2_fillRow_7 rfl (lv_at hl 4 rfl) ?_
  refine lv_istore (lv' := [(6, .int 3), (5, .int 1), (0, .ref q_outlook), (1, .ref q_now), (2, .ref q_far), (3, .int 3), (4, .int 0)]) hx hb dX2_fillRow_8 hl (by decide) rfl (fun ls hl => ?_)
  refine lv_iload hx hb dX2_fillRow_10 (lv_at hl 0 rfl) ?_
  refine lv_iload hx hb dX2_fillRow_12 (lv_at hl 6 rfl) ?_
  refine lv_icmp_ge (tgt := 88) hx hb dX2_fillRow_14 (by decide) (fun _ => ?_) (fun h => absurd (by decide +kernel) h)
  refine lv_iload hx hb dX2_fillRow_88 (lv_at hl 1 rfl) ?_
  exact q_iret C hr hlocks hK hP hD hS (Nat.le_of_ble_eq_true rfl) (Nat.le_of_ble_eq_true rfl) dX2_fillRow_90 (⟨rfl, rfl⟩)

set_option maxHeartbeats 4000000 in
set_option maxRecDepth 100000 in
theorem k_X2_fillNear (l : Launch) (dC : Nat → ClassId) (dI : Nat → Nat → Nat) (cB cI cJ cZ cS : ClassId) (q_sound : Nat) (q_now : Nat) (q_outlook : Nat) (q_near : Nat) (u_outlook_1 : Value) (u_outlook_3 : Value) (u_outlook_4 : Value) (u_outlook_5 : Value) (u_sound_0 : Value) (u_sound_1 : Value) (u_sound_2 : Value) (u_sound_3 : Value) (u_sound_4 : Value) (u_sound_5 : Value) (u_sound_7 : Value) (u_sound_8 : Value) (u_sound_9 : Value) (f_near : Nat → Int32) : CI l yX2_fillNear wsX2_fillNear ({ frames := 1, cells := 0, slots := 0, locals := 29 }) (dC, dI) (tysA cB cI cJ cZ cS) [(q_outlook, .inr (2, [.ref q_sound, u_outlook_1, .ref q_near, u_outlook_3, u_outlook_4, u_outlook_5])), (q_sound, .inr (5, [u_sound_0, u_sound_1, u_sound_2, u_sound_3, u_sound_4, u_sound_5, .int 0, u_sound_7, u_sound_8, u_sound_9])), (q_near, .inl (cI, 216, .inl f_near))] [.ref q_outlook, .ref q_now] (fun r w => w = [(q_outlook, .inr (2, [.ref q_sound, u_outlook_1, .ref q_near, u_outlook_3, u_outlook_4, u_outlook_5])), (q_sound, .inr (5, [u_sound_0, u_sound_1, u_sound_2, u_sound_3, u_sound_4, u_sound_5, .int 0, u_sound_7, u_sound_8, u_sound_9])), (q_near, .inl (cI, 216, .inl (upd f_near 0 1)))] ∧ r = 1) := by
  refine open_I (cc := cX2_fillNear) (maxL := 2) (ret := (some .int)) (by decide) rfl (Nat.le_of_ble_eq_true rfl) ?_
  intro p e s m below meth c A ls E
  obtain ⟨C, hr, hlocks, hnm, hA, hP, hK, hD, hN, hl⟩ := E
  obtain ⟨hx, hb, hml, hown, hts⟩ := id C
  have hS : va_S A s.heap s.heap [] := va_S.rf
  have hl : lv_has ls 2 [(0, .ref q_outlook), (1, .ref q_now)] := hl
  have inX2 : ∀ w ∈ u_ws RX2 TX2 6, w ∈ wsX2_fillNear := by decide +kernel
  have inX5 : ∀ w ∈ u_ws RX5 TX5 10, w ∈ wsX2_fillNear := by decide +kernel
  have L24 : Cond.fieldLink RX2 24 "GuessFerry$Outlook" "sound" "LGuessFerry$Sound;" ∈ wsX2_fillNear := by decide +kernel
  have L9 : Cond.fieldLink RX2 9 "GuessFerry$Outlook" "near" "[I" ∈ wsX2_fillNear := by decide +kernel
  have M87 : Cond.methodLink RX2 87 Lib.Math.min.name ∈ wsX2_fillNear := by decide +kernel
  have MCmin : Cond.code Lib.Math.min.name Lib.Math.min.code 2 (some .int) ∈ wsX2_fillNear := by decide +kernel
  have MI : Cond.initialized "java/lang/Math" ∈ wsX2_fillNear := by decide +kernel
  have MSmin : Cond.static Lib.Math.min.name ∈ wsX2_fillNear := by decide +kernel
  refine lv_aload_n hx hb dX2_fillNear_0 rfl (lv_at hl 0 rfl) ?_
  refine lv_aload_n hx hb dX2_fillNear_1 rfl (lv_at hl 1 rfl) ?_
  refine lv_aload_n hx hb dX2_fillNear_2 rfl (lv_at hl 0 rfl) ?_
  refine q_get (v := .ref q_near) C inX2 hK hP 0 rfl rfl 2 (by decide) rfl L9 rfl dX2_fillNear_3 ?_
  refine lv_iconst (v := 0) hx hb dX2_fillNear_6 (by decide) ?_
  refine lv_iconst (v := 3) hx hb dX2_fillNear_7 (by decide) ?_
  refine lv_aload_n hx hb dX2_fillNear_8 rfl (lv_at hl 0 rfl) ?_
  refine q_get (v := .ref q_sound) C inX2 hK hP 0 rfl rfl 0 (by decide) rfl L24 rfl dX2_fillNear_9 ?_
  refine q_getN (v := .int 0) C hN inX5 hK hP 1 rfl rfl 6 (by decide) rfl nwF_X2_44 rfl dX2_fillNear_12 ?_
  refine va_mmin hx hb (hml.trans hl.1.symm) hown (hts _ M87) (hts _ MSmin) (hts _ MI) (hts _ MCmin) (Nat.le_of_ble_eq_true rfl) (Nat.le_of_ble_eq_true rfl) (Nat.zero_le _) (Nat.zero_le _) dX2_fillNear_15 ?_
  refine q_top (y := 0) (by decide +kernel) ?_
  refine q_goi (wr := [(q_sound, .inr (5, [u_sound_0, u_sound_1, u_sound_2, u_sound_3, u_sound_4, u_sound_5, .int 0, u_sound_7, u_sound_8, u_sound_9]))]) (va_runV (As := [.ref q_now, .ref q_near, .int 0, .int 0]) (rest := []) C (k_fillRowNear l dC dI cB cI cJ cZ cS (q_now) (q_outlook) (q_near) (f_near) (.ref q_sound) (u_outlook_1) (.ref q_near) (u_outlook_3) (u_outlook_4) (u_outlook_5) _) (cwV 4 hts gX2_fillNear_X2_fillRow rfl rfl rfl (by decide +kernel) ⟨Nat.le_of_ble_eq_true rfl, Nat.le_of_ble_eq_true rfl⟩) (q_preV hK hP (ci := 2) (q0 := 0) rfl rfl rfl (q_pre hN hK hP hD [2, 0] rfl (by decide))) rfl rfl hl.1 rfl (lv_room (Nat.le_of_ble_eq_true rfl)) dX2_fillNear_18 ⟨Nat.le_of_ble_eq_true rfl, Nat.le_of_ble_eq_true rfl⟩) hP hD hS hA [2, 0] [1] rfl rfl (by decide) (by decide) (fun r w1 H locs hw hP hD hS => ?_)
  obtain ⟨rfl, rfl⟩ := hw
  have hP : va_P (dC, dI) vwCl [(q_outlook, .inr (2, [.ref q_sound, u_outlook_1, .ref q_near, u_outlook_3, u_outlook_4, u_outlook_5])), (q_sound, .inr (5, [u_sound_0, u_sound_1, u_sound_2, u_sound_3, u_sound_4, u_sound_5, .int 0, u_sound_7, u_sound_8, u_sound_9])), (q_near, .inl (cI, 216, .inl (upd f_near 0 1)))] H := hP.sub [2, 0, 1] rfl
  have hD : va_D A [(q_outlook, .inr (2, [.ref q_sound, u_outlook_1, .ref q_near, u_outlook_3, u_outlook_4, u_outlook_5])), (q_sound, .inr (5, [u_sound_0, u_sound_1, u_sound_2, u_sound_3, u_sound_4, u_sound_5, .int 0, u_sound_7, u_sound_8, u_sound_9])), (q_near, .inl (cI, 216, .inl (upd f_near 0 1)))] := hD.sub [2, 0, 1] (by decide) rfl
  exact q_iret C hr hlocks hK hP hD hS (Nat.le_of_ble_eq_true rfl) (Nat.le_of_ble_eq_true rfl) dX2_fillNear_21 (⟨rfl, rfl⟩)

set_option maxHeartbeats 4000000 in
set_option maxRecDepth 100000 in
theorem k_X2_fillFar (l : Launch) (dC : Nat → ClassId) (dI : Nat → Nat → Nat) (cB cI cJ cZ cS : ClassId) (q_sound : Nat) (q_now : Nat) (q_outlook : Nat) (q_far : Nat) (u_outlook_1 : Value) (u_outlook_2 : Value) (u_outlook_4 : Value) (u_outlook_5 : Value) (u_sound_0 : Value) (u_sound_1 : Value) (u_sound_2 : Value) (u_sound_3 : Value) (u_sound_4 : Value) (u_sound_5 : Value) (u_sound_7 : Value) (u_sound_8 : Value) (u_sound_9 : Value) (f_far : Nat → Int32) : CI l yX2_fillFar wsX2_fillFar ({ frames := 1, cells := 0, slots := 0, locals := 29 }) (dC, dI) (tysA cB cI cJ cZ cS) [(q_outlook, .inr (2, [.ref q_sound, u_outlook_1, u_outlook_2, .ref q_far, u_outlook_4, u_outlook_5])), (q_sound, .inr (5, [u_sound_0, u_sound_1, u_sound_2, u_sound_3, u_sound_4, u_sound_5, .int 0, u_sound_7, u_sound_8, u_sound_9])), (q_far, .inl (cI, 36, .inl f_far))] [.ref q_outlook, .ref q_now] (fun r w => w = [(q_outlook, .inr (2, [.ref q_sound, u_outlook_1, u_outlook_2, .ref q_far, u_outlook_4, u_outlook_5])), (q_sound, .inr (5, [u_sound_0, u_sound_1, u_sound_2, u_sound_3, u_sound_4, u_sound_5, .int 0, u_sound_7, u_sound_8, u_sound_9])), (q_far, .inl (cI, 36, .inl (upd f_far 0 1)))] ∧ r = 1) := by
  refine open_I (cc := cX2_fillFar) (maxL := 2) (ret := (some .int)) (by decide) rfl (Nat.le_of_ble_eq_true rfl) ?_
  intro p e s m below meth c A ls E
  obtain ⟨C, hr, hlocks, hnm, hA, hP, hK, hD, hN, hl⟩ := E
  obtain ⟨hx, hb, hml, hown, hts⟩ := id C
  have hS : va_S A s.heap s.heap [] := va_S.rf
  have hl : lv_has ls 2 [(0, .ref q_outlook), (1, .ref q_now)] := hl
  have inX2 : ∀ w ∈ u_ws RX2 TX2 6, w ∈ wsX2_fillFar := by decide +kernel
  have inX5 : ∀ w ∈ u_ws RX5 TX5 10, w ∈ wsX2_fillFar := by decide +kernel
  have L15 : Cond.fieldLink RX2 15 "GuessFerry$Outlook" "far" "[I" ∈ wsX2_fillFar := by decide +kernel
  have L24 : Cond.fieldLink RX2 24 "GuessFerry$Outlook" "sound" "LGuessFerry$Sound;" ∈ wsX2_fillFar := by decide +kernel
  refine lv_aload_n hx hb dX2_fillFar_0 rfl (lv_at hl 0 rfl) ?_
  refine lv_aload_n hx hb dX2_fillFar_1 rfl (lv_at hl 1 rfl) ?_
  refine lv_aload_n hx hb dX2_fillFar_2 rfl (lv_at hl 0 rfl) ?_
  refine q_get (v := .ref q_far) C inX2 hK hP 0 rfl rfl 3 (by decide) rfl L15 rfl dX2_fillFar_3 ?_
  refine lv_iconst (v := 3) hx hb dX2_fillFar_6 (by decide) ?_
  refine lv_aload_n hx hb dX2_fillFar_7 rfl (lv_at hl 0 rfl) ?_
  refine q_get (v := .ref q_sound) C inX2 hK hP 0 rfl rfl 0 (by decide) rfl L24 rfl dX2_fillFar_8 ?_
  refine q_getN (v := .int 0) C hN inX5 hK hP 1 rfl rfl 6 (by decide) rfl nwF_X2_44 rfl dX2_fillFar_11 ?_
  refine q_goi (wr := [(q_sound, .inr (5, [u_sound_0, u_sound_1, u_sound_2, u_sound_3, u_sound_4, u_sound_5, .int 0, u_sound_7, u_sound_8, u_sound_9]))]) (va_runV (As := [.ref q_now, .ref q_far, .int 3, .int 0]) (rest := []) C (k_fillRowFar l dC dI cB cI cJ cZ cS (q_now) (q_outlook) (q_far) (f_far) (.ref q_sound) (u_outlook_1) (u_outlook_2) (.ref q_far) (u_outlook_4) (u_outlook_5) _) (cwV 4 hts gX2_fillFar_X2_fillRow rfl rfl rfl (by decide +kernel) ⟨Nat.le_of_ble_eq_true rfl, Nat.le_of_ble_eq_true rfl⟩) (q_preV hK hP (ci := 2) (q0 := 0) rfl rfl rfl (q_pre hN hK hP hD [2, 0] rfl (by decide))) rfl rfl hl.1 rfl (lv_room (Nat.le_of_ble_eq_true rfl)) dX2_fillFar_14 ⟨Nat.le_of_ble_eq_true rfl, Nat.le_of_ble_eq_true rfl⟩) hP hD hS hA [2, 0] [1] rfl rfl (by decide) (by decide) (fun r w1 H locs hw hP hD hS => ?_)
  obtain ⟨rfl, rfl⟩ := hw
  have hP : va_P (dC, dI) vwCl [(q_outlook, .inr (2, [.ref q_sound, u_outlook_1, u_outlook_2, .ref q_far, u_outlook_4, u_outlook_5])), (q_sound, .inr (5, [u_sound_0, u_sound_1, u_sound_2, u_sound_3, u_sound_4, u_sound_5, .int 0, u_sound_7, u_sound_8, u_sound_9])), (q_far, .inl (cI, 36, .inl (upd f_far 0 1)))] H := hP.sub [2, 0, 1] rfl
  have hD : va_D A [(q_outlook, .inr (2, [.ref q_sound, u_outlook_1, u_outlook_2, .ref q_far, u_outlook_4, u_outlook_5])), (q_sound, .inr (5, [u_sound_0, u_sound_1, u_sound_2, u_sound_3, u_sound_4, u_sound_5, .int 0, u_sound_7, u_sound_8, u_sound_9])), (q_far, .inl (cI, 36, .inl (upd f_far 0 1)))] := hD.sub [2, 0, 1] (by decide) rfl
  exact q_iret C hr hlocks hK hP hD hS (Nat.le_of_ble_eq_true rfl) (Nat.le_of_ble_eq_true rfl) dX2_fillFar_17 (⟨rfl, rfl⟩)

set_option maxHeartbeats 4000000 in
set_option maxRecDepth 100000 in
theorem k_X2_casesAheadOf (l : Launch) (dC : Nat → ClassId) (dI : Nat → Nat → Nat) (cB cI cJ cZ cS : ClassId) (q_sound : Nat) (q_now : Nat) (q_outlook : Nat) (q_near : Nat) (q_far : Nat) (u_outlook_1 : Value) (u_outlook_4 : Value) (u_outlook_5 : Value) (u_sound_0 : Value) (u_sound_1 : Value) (u_sound_2 : Value) (u_sound_3 : Value) (u_sound_4 : Value) (u_sound_5 : Value) (u_sound_7 : Value) (u_sound_8 : Value) (u_sound_9 : Value) (f_near : Nat → Int32) (f_far : Nat → Int32) : CI l yX2_casesAheadOf wsX2_casesAheadOf ({ frames := 2, cells := 0, slots := 0, locals := 50 }) (dC, dI) (tysA cB cI cJ cZ cS) [(q_outlook, .inr (2, [.ref q_sound, u_outlook_1, .ref q_near, .ref q_far, u_outlook_4, u_outlook_5])), (q_sound, .inr (5, [u_sound_0, u_sound_1, u_sound_2, u_sound_3, u_sound_4, u_sound_5, .int 0, u_sound_7, u_sound_8, u_sound_9])), (q_near, .inl (cI, 216, .inl f_near)), (q_far, .inl (cI, 36, .inl f_far))] [.ref q_outlook, .ref q_now, .int 0, .int 1] (fun r w => w = [(q_outlook, .inr (2, [.ref q_sound, u_outlook_1, .ref q_near, .ref q_far, u_outlook_4, u_outlook_5])), (q_sound, .inr (5, [u_sound_0, u_sound_1, u_sound_2, u_sound_3, u_sound_4, u_sound_5, .int 0, u_sound_7, u_sound_8, u_sound_9])), (q_near, .inl (cI, 216, .inl (upd f_near 0 1))), (q_far, .inl (cI, 36, .inl (upd f_far 0 1)))] ∧ r = 0) := by
  refine open_I (cc := cX2_casesAheadOf) (maxL := 11) (ret := (some .int)) (by decide) rfl (Nat.le_of_ble_eq_true rfl) ?_
  intro p e s m below meth c A ls E
  obtain ⟨C, hr, hlocks, hnm, hA, hP, hK, hD, hN, hl⟩ := E
  obtain ⟨hx, hb, hml, hown, hts⟩ := id C
  have hS : va_S A s.heap s.heap [] := va_S.rf
  have hl : lv_has ls 11 [(0, .ref q_outlook), (1, .ref q_now), (2, .int 0), (3, .int 1)] := hl
  have inX2 : ∀ w ∈ u_ws RX2 TX2 6, w ∈ wsX2_casesAheadOf := by decide +kernel
  have L15 : Cond.fieldLink RX2 15 "GuessFerry$Outlook" "far" "[I" ∈ wsX2_casesAheadOf := by decide +kernel
  have L9 : Cond.fieldLink RX2 9 "GuessFerry$Outlook" "near" "[I" ∈ wsX2_casesAheadOf := by decide +kernel
  refine lv_aload_n hx hb dX2_casesAheadOf_0 rfl (lv_at hl 0 rfl) ?_
  refine lv_aload_n hx hb dX2_casesAheadOf_1 rfl (lv_at hl 1 rfl) ?_
  refine q_goi (wr := [(q_far, .inl (cI, 36, .inl f_far))]) (va_runV (As := [.ref q_now]) (rest := []) C (k_X2_fillNear l dC dI cB cI cJ cZ cS (q_sound) (q_now) (q_outlook) (q_near) (u_outlook_1) (.ref q_far) (u_outlook_4) (u_outlook_5) (u_sound_0) (u_sound_1) (u_sound_2) (u_sound_3) (u_sound_4) (u_sound_5) (u_sound_7) (u_sound_8) (u_sound_9) (f_near) _) (cwV 1 hts gX2_casesAheadOf_X2_fillNear rfl rfl rfl (by decide +kernel) ⟨Nat.le_of_ble_eq_true rfl, Nat.le_of_ble_eq_true rfl⟩) (q_preV hK hP (ci := 2) (q0 := 0) rfl rfl rfl (q_pre hN hK hP hD [0, 1, 2] rfl (by decide))) rfl rfl hl.1 rfl (lv_room (Nat.le_of_ble_eq_true rfl)) dX2_casesAheadOf_2 ⟨Nat.le_of_ble_eq_true rfl, Nat.le_of_ble_eq_true rfl⟩) hP hD hS hA [0, 1, 2] [3] rfl rfl (by decide) (by decide) (fun r w1 H locs hw hP hD hS => ?_)
  obtain ⟨rfl, rfl⟩ := hw
  have hP : va_P (dC, dI) vwCl [(q_outlook, .inr (2, [.ref q_sound, u_outlook_1, .ref q_near, .ref q_far, u_outlook_4, u_outlook_5])), (q_sound, .inr (5, [u_sound_0, u_sound_1, u_sound_2, u_sound_3, u_sound_4, u_sound_5, .int 0, u_sound_7, u_sound_8, u_sound_9])), (q_near, .inl (cI, 216, .inl (upd f_near 0 1))), (q_far, .inl (cI, 36, .inl f_far))] H := hP.sub [1, 2, 3, 0] rfl
  have hD : va_D A [(q_outlook, .inr (2, [.ref q_sound, u_outlook_1, .ref q_near, .ref q_far, u_outlook_4, u_outlook_5])), (q_sound, .inr (5, [u_sound_0, u_sound_1, u_sound_2, u_sound_3, u_sound_4, u_sound_5, .int 0, u_sound_7, u_sound_8, u_sound_9])), (q_near, .inl (cI, 216, .inl (upd f_near 0 1))), (q_far, .inl (cI, 36, .inl f_far))] := hD.sub [1, 2, 3, 0] (by decide) rfl
  refine lv_istore (lv' := [(4, .int 1), (0, .ref q_outlook), (1, .ref q_now), (2, .int 0), (3, .int 1)]) hx hb dX2_casesAheadOf_5 hl (by decide) rfl (fun ls hl => ?_)
  refine lv_aload_n hx hb dX2_casesAheadOf_7 rfl (lv_at hl 1 rfl) ?_
  refine lv_aload_n hx hb dX2_casesAheadOf_8 rfl (lv_at hl 2 rfl) ?_
  refine q_goi (wr := [(q_near, .inl (cI, 216, .inl (upd f_near 0 1)))]) (va_runV (As := [.ref q_now]) (rest := []) C (k_X2_fillFar l dC dI cB cI cJ cZ cS (q_sound) (q_now) (q_outlook) (q_far) (u_outlook_1) (.ref q_near) (u_outlook_4) (u_outlook_5) (u_sound_0) (u_sound_1) (u_sound_2) (u_sound_3) (u_sound_4) (u_sound_5) (u_sound_7) (u_sound_8) (u_sound_9) (f_far) _) (cwV 1 hts gX2_casesAheadOf_X2_fillFar rfl rfl rfl (by decide +kernel) ⟨Nat.le_of_ble_eq_true rfl, Nat.le_of_ble_eq_true rfl⟩) (q_preV hK hP (ci := 2) (q0 := 0) rfl rfl rfl (q_pre hN hK hP hD [0, 1, 3] rfl (by decide))) rfl rfl hl.1 rfl (lv_room (Nat.le_of_ble_eq_true rfl)) dX2_casesAheadOf_9 ⟨Nat.le_of_ble_eq_true rfl, Nat.le_of_ble_eq_true rfl⟩) hP hD hS hA [0, 1, 3] [2] rfl rfl (by decide) (by decide) (fun r w1 H locs hw hP hD hS => ?_)
  obtain ⟨rfl, rfl⟩ := hw
  have hP : va_P (dC, dI) vwCl [(q_outlook, .inr (2, [.ref q_sound, u_outlook_1, .ref q_near, .ref q_far, u_outlook_4, u_outlook_5])), (q_sound, .inr (5, [u_sound_0, u_sound_1, u_sound_2, u_sound_3, u_sound_4, u_sound_5, .int 0, u_sound_7, u_sound_8, u_sound_9])), (q_near, .inl (cI, 216, .inl (upd f_near 0 1))), (q_far, .inl (cI, 36, .inl (upd f_far 0 1)))] H := hP.sub [1, 2, 0, 3] rfl
  have hD : va_D A [(q_outlook, .inr (2, [.ref q_sound, u_outlook_1, .ref q_near, .ref q_far, u_outlook_4, u_outlook_5])), (q_sound, .inr (5, [u_sound_0, u_sound_1, u_sound_2, u_sound_3, u_sound_4, u_sound_5, .int 0, u_sound_7, u_sound_8, u_sound_9])), (q_near, .inl (cI, 216, .inl (upd f_near 0 1))), (q_far, .inl (cI, 36, .inl (upd f_far 0 1)))] := hD.sub [1, 2, 0, 3] (by decide) rfl
  refine lv_istore (lv' := [(5, .int 1), (4, .int 1), (0, .ref q_outlook), (1, .ref q_now), (2, .int 0), (3, .int 1)]) hx hb dX2_casesAheadOf_12 hl (by decide) rfl (fun ls hl => ?_)
  refine lv_iconst (v := 0) hx hb dX2_casesAheadOf_14 (by decide) ?_
  refine lv_istore (lv' := [(6, .int 0), (5, .int 1), (4, .int 1), (0, .ref q_outlook), (1, .ref q_now), (2, .int 0), (3, .int 1)]) hx hb dX2_casesAheadOf_15 hl (by decide) rfl (fun ls hl => ?_)
  refine lv_iconst (v := 0) hx hb dX2_casesAheadOf_17 (by decide) ?_
  refine lv_istore (lv' := [(7, .int 0), (6, .int 0), (5, .int 1), (4, .int 1), (0, .ref q_outlook), (1, .ref q_now), (2, .int 0), (3, .int 1)]) hx hb dX2_casesAheadOf_18 hl (by decide) rfl (fun ls hl => ?_)
  refine lv_iconst (v := 0) hx hb dX2_casesAheadOf_20 (by decide) ?_
  refine lv_istore (lv' := [(8, .int 0), (7, .int 0), (6, .int 0), (5, .int 1), (4, .int 1), (0, .ref q_outlook), (1, .ref q_now), (2, .int 0), (3, .int 1)]) hx hb dX2_casesAheadOf_21 hl (by decide) rfl (fun ls hl => ?_)
  refine lv_iload hx hb dX2_casesAheadOf_23 (lv_at hl 0 rfl) ?_
  refine lv_iload hx hb dX2_casesAheadOf_25 (lv_at hl 3 rfl) ?_
  refine lv_icmp_ge (tgt := 93) hx hb dX2_casesAheadOf_27 (by decide) (fun h => absurd h (by decide +kernel)) (fun _ => ?_)
  refine lv_iconst (v := 0) hx hb dX2_casesAheadOf_30 (by decide) ?_
  refine lv_istore (lv' := [(9, .int 0), (8, .int 0), (7, .int 0), (6, .int 0), (5, .int 1), (4, .int 1), (0, .ref q_outlook), (1, .ref q_now), (2, .int 0), (3, .int 1)]) hx hb dX2_casesAheadOf_31 hl (by decide) rfl (fun ls hl => ?_)
  refine lv_iload hx hb dX2_casesAheadOf_33 (lv_at hl 0 rfl) ?_
  refine lv_iload hx hb dX2_casesAheadOf_35 (lv_at hl 5 rfl) ?_
  refine lv_icmp_ge (tgt := 87) hx hb dX2_casesAheadOf_37 (by decide) (fun h => absurd h (by decide +kernel)) (fun _ => ?_)
  refine lv_aload_n hx hb dX2_casesAheadOf_40 rfl (lv_at hl 6 rfl) ?_
  refine q_get (v := .ref q_far) C inX2 hK hP 0 rfl rfl 3 (by decide) rfl L15 rfl dX2_casesAheadOf_41 ?_
  refine lv_iload hx hb dX2_casesAheadOf_44 (lv_at hl 1 rfl) ?_
  refine q_iald (x := 1) C hK hP 3 1 rfl rfl (vp_lit (by decide +kernel)) dX2_casesAheadOf_46 (rfl) ?_
  refine lv_aload_n hx hb dX2_casesAheadOf_47 rfl (lv_at hl 6 rfl) ?_
  refine q_get (v := .ref q_near) C inX2 hK hP 0 rfl rfl 2 (by decide) rfl L9 rfl dX2_casesAheadOf_48 ?_
  refine lv_iload hx hb dX2_casesAheadOf_51 (lv_at hl 0 rfl) ?_
  refine q_iald (x := 1) C hK hP 2 1 rfl rfl (vp_lit (by decide +kernel)) dX2_casesAheadOf_53 (rfl) ?_
  refine lv_imul hx hb dX2_casesAheadOf_54 ?_
  refine q_top (y := 1) (by decide +kernel) ?_
  refine lv_istore (lv' := [(10, .int 1), (9, .int 0), (8, .int 0), (7, .int 0), (6, .int 0), (5, .int 1), (4, .int 1), (0, .ref q_outlook), (1, .ref q_now), (2, .int 0), (3, .int 1)]) hx hb dX2_casesAheadOf_55 hl (by decide) rfl (fun ls hl => ?_)
  refine lv_iload hx hb dX2_casesAheadOf_57 (lv_at hl 0 rfl) ?_
  refine lv_iload_n hx hb dX2_casesAheadOf_59 rfl (lv_at hl 10 rfl) ?_
  refine lv_icmp_gt (tgt := 75) hx hb dX2_casesAheadOf_60 (by decide) (fun h => absurd h (by decide +kernel)) (fun _ => ?_)
  refine lv_iload hx hb dX2_casesAheadOf_63 (lv_at hl 0 rfl) ?_
  refine lv_iload_n hx hb dX2_casesAheadOf_65 rfl (lv_at hl 10 rfl) ?_
  refine lv_icmp_ne (tgt := 78) hx hb dX2_casesAheadOf_66 (by decide) (fun h => absurd (by decide +kernel) h) (fun _ => ?_)
  refine lv_iload hx hb dX2_casesAheadOf_69 (lv_at hl 3 rfl) ?_
  refine lv_iload_n hx hb dX2_casesAheadOf_71 rfl (lv_at hl 9 rfl) ?_
  refine lv_icmp_ge (tgt := 78) hx hb dX2_casesAheadOf_72 (by decide) (fun _ => ?_) (fun h => absurd (by decide +kernel) h)
  refine lv_iinc (v := 1) (lv' := [(7, .int 1), (10, .int 1), (9, .int 0), (8, .int 0), (6, .int 0), (5, .int 1), (4, .int 1), (0, .ref q_outlook), (1, .ref q_now), (2, .int 0), (3, .int 1)]) hx hb dX2_casesAheadOf_78 hl (k := 3) rfl (by decide +kernel) (by decide) rfl (fun ls hl => ?_)
  refine lv_iinc (v := 1) (lv' := [(9, .int 1), (7, .int 1), (10, .int 1), (8, .int 0), (6, .int 0), (5, .int 1), (4, .int 1), (0, .ref q_outlook), (1, .ref q_now), (2, .int 0), (3, .int 1)]) hx hb dX2_casesAheadOf_81 hl (k := 2) rfl (by decide +kernel) (by decide) rfl (fun ls hl => ?_)
  refine lv_goto (tgt := 33) hx hb dX2_casesAheadOf_84 (by decide) ?_
  refine lv_iload hx hb dX2_casesAheadOf_33 (lv_at hl 0 rfl) ?_
  refine lv_iload hx hb dX2_casesAheadOf_35 (lv_at hl 6 rfl) ?_
  refine lv_icmp_ge (tgt := 87) hx hb dX2_casesAheadOf_37 (by decide) (fun _ => ?_) (fun h => absurd (by decide +kernel) h)
  refine lv_iinc (v := 1) (lv' := [(8, .int 1), (9, .int 1), (7, .int 1), (10, .int 1), (6, .int 0), (5, .int 1), (4, .int 1), (0, .ref q_outlook), (1, .ref q_now), (2, .int 0), (3, .int 1)]) hx hb dX2_casesAheadOf_87 hl (k := 3) rfl (by decide +kernel) (by decide) rfl (fun ls hl => ?_)
  refine lv_goto (tgt := 23) hx hb dX2_casesAheadOf_90 (by decide) ?_
  refine lv_iload hx hb dX2_casesAheadOf_23 (lv_at hl 0 rfl) ?_
  refine lv_iload hx hb dX2_casesAheadOf_25 (lv_at hl 5 rfl) ?_
  refine lv_icmp_ge (tgt := 93) hx hb dX2_casesAheadOf_27 (by decide) (fun _ => ?_) (fun h => absurd (by decide +kernel) h)
  refine lv_iload hx hb dX2_casesAheadOf_93 (lv_at hl 4 rfl) ?_
  exact q_iret C hr hlocks hK hP hD hS (Nat.le_of_ble_eq_true rfl) (Nat.le_of_ble_eq_true rfl) dX2_casesAheadOf_95 (⟨rfl, rfl⟩)

set_option maxHeartbeats 4000000 in
set_option maxRecDepth 100000 in
theorem k_X10_rank (l : Launch) (dC : Nat → ClassId) (dI : Nat → Nat → Nat) (cB cI cJ cZ cS : ClassId) (q_G : Nat) (q_sound : Nat) (q_now : Nat) (q_outlook : Nat) (q_near : Nat) (q_far : Nat) (u_G_0 : Value) (u_G_2 : Value) (u_G_4 : Value) (u_G_5 : Value) (u_G_6 : Value) (u_G_8 : Value) (u_sound_0 : Value) (u_sound_1 : Value) (u_sound_2 : Value) (u_sound_3 : Value) (u_sound_4 : Value) (u_sound_5 : Value) (u_sound_7 : Value) (u_sound_9 : Value) (u_outlook_1 : Value) (u_outlook_4 : Value) (u_outlook_5 : Value) (f_near : Nat → Int32) (f_far : Nat → Int32) (x1 : Int32) : CI l yX10_rank wsX10_rank ({ frames := 3, cells := 0, slots := 0, locals := 80 }) (dC, dI) (tysA cB cI cJ cZ cS) [(q_G, .inr (10, [u_G_0, .ref q_sound, u_G_2, .ref q_now, u_G_4, u_G_5, u_G_6, .ref q_outlook, u_G_8])), (q_sound, .inr (5, [u_sound_0, u_sound_1, u_sound_2, u_sound_3, u_sound_4, u_sound_5, .int 0, u_sound_7, .int 1, u_sound_9])), (q_outlook, .inr (2, [.ref q_sound, u_outlook_1, .ref q_near, .ref q_far, u_outlook_4, u_outlook_5])), (q_near, .inl (cI, 216, .inl f_near)), (q_far, .inl (cI, 36, .inl f_far))] [.ref q_G, .int x1] (fun r _ => r = (fr_one 0 x1)) := by
  refine open_I (cc := cX10_rank) (maxL := 3) (ret := (some .int)) (by decide) rfl (Nat.le_of_ble_eq_true rfl) ?_
  intro p e s m below meth c A ls E
  obtain ⟨C, hr, hlocks, hnm, hA, hP, hK, hD, hN, hl⟩ := E
  obtain ⟨hx, hb, hml, hown, hts⟩ := id C
  have hS : va_S A s.heap s.heap [] := va_S.rf
  have hl : lv_has ls 3 [(0, .ref q_G), (1, .int x1)] := hl
  have inX10 : ∀ w ∈ u_ws RX10 TX10 9, w ∈ wsX10_rank := by decide +kernel
  have E_X2_casesAheadOf : Cond.selects RX2 yX2_casesAheadOf yX2_casesAheadOf ∈ wsX10_rank := by decide +kernel
  have E_X2_oddsOf : Cond.selects RX2 yX2_oddsOf yX2_oddsOf ∈ wsX10_rank := by decide +kernel
  have E_X5_hasGuess : Cond.selects RX5 yX5_hasGuess yX5_hasGuess ∈ wsX10_rank := by decide +kernel
  have I_X2 : Cond.initialized RX2 ∈ wsX10_rank := by decide +kernel
  have I_X5 : Cond.initialized RX5 ∈ wsX10_rank := by decide +kernel
  have L19 : Cond.fieldLink RX10 19 "GuessFerry" "sound" "LGuessFerry$Sound;" ∈ wsX10_rank := by decide +kernel
  have L35 : Cond.fieldLink RX10 35 "GuessFerry" "now" "LGuessFerry$Standing;" ∈ wsX10_rank := by decide +kernel
  have L63 : Cond.fieldLink RX10 63 "GuessFerry" "outlook" "LGuessFerry$Outlook;" ∈ wsX10_rank := by decide +kernel
  have N_X2_casesAheadOf : Cond.instanceMethod yX2_casesAheadOf ∈ wsX10_rank := by decide +kernel
  have N_X2_oddsOf : Cond.instanceMethod yX2_oddsOf ∈ wsX10_rank := by decide +kernel
  have N_X5_hasGuess : Cond.instanceMethod yX5_hasGuess ∈ wsX10_rank := by decide +kernel
  refine lv_aload_n hx hb dX10_rank_0 rfl (lv_at hl 0 rfl) ?_
  refine q_get (v := .ref q_sound) C inX10 hK hP 0 rfl rfl 1 (by decide) rfl L19 rfl dX10_rank_1 ?_
  refine lv_iload_n hx hb dX10_rank_4 rfl (lv_at hl 1 rfl) ?_
  refine q_goi (wr := [(q_G, .inr (10, [u_G_0, .ref q_sound, u_G_2, .ref q_now, u_G_4, u_G_5, u_G_6, .ref q_outlook, u_G_8])), (q_outlook, .inr (2, [.ref q_sound, u_outlook_1, .ref q_near, .ref q_far, u_outlook_4, u_outlook_5])), (q_near, .inl (cI, 216, .inl f_near)), (q_far, .inl (cI, 36, .inl f_far))]) (va_runVN (As := [.int x1]) (rest := []) C (k_X5_hasGuess l dC dI cB cI cJ cZ cS (q_sound) (u_sound_0) (u_sound_1) (u_sound_2) (u_sound_3) (u_sound_4) (u_sound_5) (.int 0) (u_sound_7) (u_sound_9) x1 _) ⟨va_cnB 1 hts gX10_rank_X5_hasGuess_n170 rfl rfl rfl (hN _ nwM_X10_170 rfl) (hts _ I_X5) (by decide +kernel) ⟨Nat.le_of_ble_eq_true rfl, Nat.le_of_ble_eq_true rfl⟩, hts _ N_X5_hasGuess, hts _ E_X5_hasGuess⟩ (q_preV hK hP (ci := 5) (q0 := 1) rfl rfl rfl (q_pre hN hK hP hD [1] rfl (by decide))) rfl rfl hl.1 rfl (lv_room (Nat.le_of_ble_eq_true rfl)) dX10_rank_5 ⟨Nat.le_of_ble_eq_true rfl, Nat.le_of_ble_eq_true rfl⟩) hP hD hS hA [1] [0, 2, 3, 4] rfl rfl (by decide) (by decide) (fun r w1 H locs hw hP hD hS => ?_)
  obtain ⟨rfl, rfl⟩ := hw
  have hP : va_P (dC, dI) vwCl [(q_G, .inr (10, [u_G_0, .ref q_sound, u_G_2, .ref q_now, u_G_4, u_G_5, u_G_6, .ref q_outlook, u_G_8])), (q_sound, .inr (5, [u_sound_0, u_sound_1, u_sound_2, u_sound_3, u_sound_4, u_sound_5, .int 0, u_sound_7, .int 1, u_sound_9])), (q_outlook, .inr (2, [.ref q_sound, u_outlook_1, .ref q_near, .ref q_far, u_outlook_4, u_outlook_5])), (q_near, .inl (cI, 216, .inl f_near)), (q_far, .inl (cI, 36, .inl f_far))] H := hP.sub [0, 4, 1, 2, 3] rfl
  have hD : va_D A [(q_G, .inr (10, [u_G_0, .ref q_sound, u_G_2, .ref q_now, u_G_4, u_G_5, u_G_6, .ref q_outlook, u_G_8])), (q_sound, .inr (5, [u_sound_0, u_sound_1, u_sound_2, u_sound_3, u_sound_4, u_sound_5, .int 0, u_sound_7, .int 1, u_sound_9])), (q_outlook, .inr (2, [.ref q_sound, u_outlook_1, .ref q_near, .ref q_far, u_outlook_4, u_outlook_5])), (q_near, .inl (cI, 216, .inl f_near)), (q_far, .inl (cI, 36, .inl f_far))] := hD.sub [0, 4, 1, 2, 3] (by decide) rfl
  refine lv_if_ne (tgt := 13) hx hb dX10_rank_8 (by decide) (fun c1 => ?_) (fun c1 => ?_)
  · skip
    obtain rfl : x1 = 0 := sp_in_00 c1
    refine lv_aload_n hx hb dX10_rank_13 rfl (lv_at hl 0 rfl) ?_
    refine q_get (v := .ref q_outlook) C inX10 hK hP 0 rfl rfl 7 (by decide) rfl L63 rfl dX10_rank_14 ?_
    refine lv_aload_n hx hb dX10_rank_17 rfl (lv_at hl 0 rfl) ?_
    refine q_get (v := .ref q_now) C inX10 hK hP 0 rfl rfl 3 (by decide) rfl L35 rfl dX10_rank_18 ?_
    refine lv_iload_n hx hb dX10_rank_21 rfl (lv_at hl 1 rfl) ?_
    refine q_goi (wr := [(q_G, .inr (10, [u_G_0, .ref q_sound, u_G_2, .ref q_now, u_G_4, u_G_5, u_G_6, .ref q_outlook, u_G_8])), (q_near, .inl (cI, 216, .inl f_near)), (q_far, .inl (cI, 36, .inl f_far))]) (va_runVN (As := [.ref q_now, .int 0]) (rest := []) C (k_X2_oddsOf l dC dI cB cI cJ cZ cS (q_sound) (q_now) (q_outlook) (u_outlook_1) (.ref q_near) (.ref q_far) (u_outlook_4) (u_outlook_5) (u_sound_0) (u_sound_1) (u_sound_2) (u_sound_3) (u_sound_4) (u_sound_5) (u_sound_7) (.int 1) (u_sound_9) 0 _) ⟨va_cnB 2 hts gX10_rank_X2_oddsOf_n200 rfl rfl rfl (hN _ nwM_X10_200 rfl) (hts _ I_X2) (by decide +kernel) ⟨Nat.le_of_ble_eq_true rfl, Nat.le_of_ble_eq_true rfl⟩, hts _ N_X2_oddsOf, hts _ E_X2_oddsOf⟩ (q_preV hK hP (ci := 2) (q0 := 2) rfl rfl rfl (q_pre hN hK hP hD [2, 1] rfl (by decide))) rfl rfl hl.1 rfl (lv_room (Nat.le_of_ble_eq_true rfl)) dX10_rank_22 ⟨Nat.le_of_ble_eq_true rfl, Nat.le_of_ble_eq_true rfl⟩) hP hD hS hA [2, 1] [0, 3, 4] rfl rfl (by decide) (by decide) (fun r w1 H locs hw hP hD hS => ?_)
    obtain ⟨rfl, rfl⟩ := hw
    have hP : va_P (dC, dI) vwCl [(q_G, .inr (10, [u_G_0, .ref q_sound, u_G_2, .ref q_now, u_G_4, u_G_5, u_G_6, .ref q_outlook, u_G_8])), (q_sound, .inr (5, [u_sound_0, u_sound_1, u_sound_2, u_sound_3, u_sound_4, u_sound_5, .int 0, u_sound_7, .int 1, u_sound_9])), (q_outlook, .inr (2, [.ref q_sound, u_outlook_1, .ref q_near, .ref q_far, u_outlook_4, u_outlook_5])), (q_near, .inl (cI, 216, .inl f_near)), (q_far, .inl (cI, 36, .inl f_far))] H := hP.sub [0, 4, 3, 1, 2] rfl
    have hD : va_D A [(q_G, .inr (10, [u_G_0, .ref q_sound, u_G_2, .ref q_now, u_G_4, u_G_5, u_G_6, .ref q_outlook, u_G_8])), (q_sound, .inr (5, [u_sound_0, u_sound_1, u_sound_2, u_sound_3, u_sound_4, u_sound_5, .int 0, u_sound_7, .int 1, u_sound_9])), (q_outlook, .inr (2, [.ref q_sound, u_outlook_1, .ref q_near, .ref q_far, u_outlook_4, u_outlook_5])), (q_near, .inl (cI, 216, .inl f_near)), (q_far, .inl (cI, 36, .inl f_far))] := hD.sub [0, 4, 3, 1, 2] (by decide) rfl
    refine lv_istore_n (lv' := [(2, .int 1), (0, .ref q_G), (1, .int 0)]) hx hb dX10_rank_25 rfl hl (by decide) rfl (fun ls hl => ?_)
    refine lv_iload_n hx hb dX10_rank_26 rfl (lv_at hl 0 rfl) ?_
    refine lv_if_ne (tgt := 35) hx hb dX10_rank_27 (by decide) (fun _ => ?_) (fun h => absurd h (by decide +kernel))
    refine lv_aload_n hx hb dX10_rank_35 rfl (lv_at hl 1 rfl) ?_
    refine q_get (v := .ref q_outlook) C inX10 hK hP 0 rfl rfl 7 (by decide) rfl L63 rfl dX10_rank_36 ?_
    refine lv_aload_n hx hb dX10_rank_39 rfl (lv_at hl 1 rfl) ?_
    refine q_get (v := .ref q_now) C inX10 hK hP 0 rfl rfl 3 (by decide) rfl L35 rfl dX10_rank_40 ?_
    refine lv_iload_n hx hb dX10_rank_43 rfl (lv_at hl 2 rfl) ?_
    refine lv_iload_n hx hb dX10_rank_44 rfl (lv_at hl 0 rfl) ?_
    refine q_goi (wr := [(q_G, .inr (10, [u_G_0, .ref q_sound, u_G_2, .ref q_now, u_G_4, u_G_5, u_G_6, .ref q_outlook, u_G_8]))]) (va_runVN (As := [.ref q_now, .int 0, .int 1]) (rest := []) C (k_X2_casesAheadOf l dC dI cB cI cJ cZ cS (q_sound) (q_now) (q_outlook) (q_near) (q_far) (u_outlook_1) (u_outlook_4) (u_outlook_5) (u_sound_0) (u_sound_1) (u_sound_2) (u_sound_3) (u_sound_4) (u_sound_5) (u_sound_7) (.int 1) (u_sound_9) (f_near) (f_far) _) ⟨va_cnB 3 hts gX10_rank_X2_casesAheadOf_n221 rfl rfl rfl (hN _ nwM_X10_221 rfl) (hts _ I_X2) (by decide +kernel) ⟨Nat.le_of_ble_eq_true rfl, Nat.le_of_ble_eq_true rfl⟩, hts _ N_X2_casesAheadOf, hts _ E_X2_casesAheadOf⟩ (q_preV hK hP (ci := 2) (q0 := 2) rfl rfl rfl (q_pre hN hK hP hD [2, 1, 3, 4] rfl (by decide))) rfl rfl hl.1 rfl (lv_room (Nat.le_of_ble_eq_true rfl)) dX10_rank_45 ⟨Nat.le_of_ble_eq_true rfl, Nat.le_of_ble_eq_true rfl⟩) hP hD hS hA [2, 1, 3, 4] [0] rfl rfl (by decide) (by decide) (fun r w1 H locs hw hP hD hS => ?_)
    obtain ⟨rfl, rfl⟩ := hw
    have hP : va_P (dC, dI) vwCl [(q_G, .inr (10, [u_G_0, .ref q_sound, u_G_2, .ref q_now, u_G_4, u_G_5, u_G_6, .ref q_outlook, u_G_8])), (q_sound, .inr (5, [u_sound_0, u_sound_1, u_sound_2, u_sound_3, u_sound_4, u_sound_5, .int 0, u_sound_7, .int 1, u_sound_9])), (q_outlook, .inr (2, [.ref q_sound, u_outlook_1, .ref q_near, .ref q_far, u_outlook_4, u_outlook_5])), (q_near, .inl (cI, 216, .inl (upd f_near 0 1))), (q_far, .inl (cI, 36, .inl (upd f_far 0 1)))] H := hP.sub [0, 2, 1, 3, 4] rfl
    have hD : va_D A [(q_G, .inr (10, [u_G_0, .ref q_sound, u_G_2, .ref q_now, u_G_4, u_G_5, u_G_6, .ref q_outlook, u_G_8])), (q_sound, .inr (5, [u_sound_0, u_sound_1, u_sound_2, u_sound_3, u_sound_4, u_sound_5, .int 0, u_sound_7, .int 1, u_sound_9])), (q_outlook, .inr (2, [.ref q_sound, u_outlook_1, .ref q_near, .ref q_far, u_outlook_4, u_outlook_5])), (q_near, .inl (cI, 216, .inl (upd f_near 0 1))), (q_far, .inl (cI, 36, .inl (upd f_far 0 1)))] := hD.sub [0, 2, 1, 3, 4] (by decide) rfl
    exact q_iret C hr hlocks hK hP hD hS (Nat.le_of_ble_eq_true rfl) (Nat.le_of_ble_eq_true rfl) dX10_rank_48 (by decide +kernel)
  · skip
    refine lv_iconst (v := (-1)) hx hb dX10_rank_11 (by decide) ?_
    exact q_iret C hr hlocks hK hP hD hS (Nat.le_of_ble_eq_true rfl) (Nat.le_of_ble_eq_true rfl) dX10_rank_12 (by unfold fr_one; rw [if_pos c1])

set_option maxHeartbeats 4000000 in
set_option maxRecDepth 100000 in
theorem k_X10_wisest (l : Launch) (dC : Nat → ClassId) (dI : Nat → Nat → Nat) (cB cI cJ cZ cS : ClassId) (q_G : Nat) (q_sound : Nat) (q_now : Nat) (q_outlook : Nat) (u_G_0 : Value) (u_G_1 : Value) (u_G_2 : Value) (u_G_4 : Value) (u_G_5 : Value) (u_G_6 : Value) (u_G_8 : Value) (u_outlook_1 : Value) (u_outlook_2 : Value) (u_outlook_3 : Value) (u_outlook_4 : Value) (u_outlook_5 : Value) (u_sound_0 : Value) (u_sound_1 : Value) (u_sound_2 : Value) (u_sound_3 : Value) (u_sound_4 : Value) (u_sound_5 : Value) (u_sound_7 : Value) (u_sound_8 : Value) (u_sound_9 : Value) (x1 : Int32) : CI l yX10_wisest wsX10_wisest ({ frames := 1, cells := 0, slots := 0, locals := 26 }) (dC, dI) (tysA cB cI cJ cZ cS) [(q_G, .inr (10, [u_G_0, u_G_1, u_G_2, .ref q_now, u_G_4, u_G_5, u_G_6, .ref q_outlook, u_G_8])), (q_outlook, .inr (2, [.ref q_sound, u_outlook_1, u_outlook_2, u_outlook_3, u_outlook_4, u_outlook_5])), (q_sound, .inr (5, [u_sound_0, u_sound_1, u_sound_2, u_sound_3, u_sound_4, u_sound_5, .int 0, u_sound_7, u_sound_8, u_sound_9]))] [.ref q_G, .int x1] (fun r _ => r = (fr_wis x1)) := by
  refine open_I (cc := cX10_wisest) (maxL := 3) (ret := (some .int)) (by decide) rfl (Nat.le_of_ble_eq_true rfl) ?_
  intro p e s m below meth c A ls E
  obtain ⟨C, hr, hlocks, hnm, hA, hP, hK, hD, hN, hl⟩ := E
  obtain ⟨hx, hb, hml, hown, hts⟩ := id C
  have hS : va_S A s.heap s.heap [] := va_S.rf
  have hl : lv_has ls 3 [(0, .ref q_G), (1, .int x1)] := hl
  have inX10 : ∀ w ∈ u_ws RX10 TX10 9, w ∈ wsX10_wisest := by decide +kernel
  have E_X2_caseCount : Cond.selects RX2 yX2_caseCount yX2_caseCount ∈ wsX10_wisest := by decide +kernel
  have E_X2_leftBehind : Cond.selects RX2 yX2_leftBehind yX2_leftBehind ∈ wsX10_wisest := by decide +kernel
  have E_X2_wisestGuess : Cond.selects RX2 yX2_wisestGuess yX2_wisestGuess ∈ wsX10_wisest := by decide +kernel
  have I_X2 : Cond.initialized RX2 ∈ wsX10_wisest := by decide +kernel
  have L35 : Cond.fieldLink RX10 35 "GuessFerry" "now" "LGuessFerry$Standing;" ∈ wsX10_wisest := by decide +kernel
  have L63 : Cond.fieldLink RX10 63 "GuessFerry" "outlook" "LGuessFerry$Outlook;" ∈ wsX10_wisest := by decide +kernel
  have N_X2_caseCount : Cond.instanceMethod yX2_caseCount ∈ wsX10_wisest := by decide +kernel
  have N_X2_leftBehind : Cond.instanceMethod yX2_leftBehind ∈ wsX10_wisest := by decide +kernel
  have N_X2_wisestGuess : Cond.instanceMethod yX2_wisestGuess ∈ wsX10_wisest := by decide +kernel
  refine lv_iload_n hx hb dX10_wisest_0 rfl (lv_at hl 1 rfl) ?_
  refine lv_if_eq (tgt := 11) hx hb dX10_wisest_1 (by decide) (fun c1 => ?_) (fun c1 => ?_)
  · skip
    refine lv_aload_n hx hb dX10_wisest_11 rfl (lv_at hl 0 rfl) ?_
    refine q_get (v := .ref q_outlook) C inX10 hK hP 0 rfl rfl 7 (by decide) rfl L63 rfl dX10_wisest_12 ?_
    refine lv_aload_n hx hb dX10_wisest_15 rfl (lv_at hl 0 rfl) ?_
    refine q_get (v := .ref q_now) C inX10 hK hP 0 rfl rfl 3 (by decide) rfl L35 rfl dX10_wisest_16 ?_
    refine q_goi (wr := [(q_G, .inr (10, [u_G_0, u_G_1, u_G_2, .ref q_now, u_G_4, u_G_5, u_G_6, .ref q_outlook, u_G_8]))]) (va_runVN (As := [.ref q_now]) (rest := []) C (k_X2_caseCount l dC dI cB cI cJ cZ cS (q_sound) (q_now) (q_outlook) (u_outlook_1) (u_outlook_2) (u_outlook_3) (u_outlook_4) (u_outlook_5) (u_sound_0) (u_sound_1) (u_sound_2) (u_sound_3) (u_sound_4) (u_sound_5) (u_sound_7) (u_sound_8) (u_sound_9) _) ⟨va_cnB 1 hts gX10_wisest_X2_caseCount_n196 rfl rfl rfl (hN _ nwM_X10_196 rfl) (hts _ I_X2) (by decide +kernel) ⟨Nat.le_of_ble_eq_true rfl, Nat.le_of_ble_eq_true rfl⟩, hts _ N_X2_caseCount, hts _ E_X2_caseCount⟩ (q_preV hK hP (ci := 2) (q0 := 1) rfl rfl rfl (q_pre hN hK hP hD [1, 2] rfl (by decide))) rfl rfl hl.1 rfl (lv_room (Nat.le_of_ble_eq_true rfl)) dX10_wisest_19 ⟨Nat.le_of_ble_eq_true rfl, Nat.le_of_ble_eq_true rfl⟩) hP hD hS hA [1, 2] [0] rfl rfl (by decide) (by decide) (fun r w1 H locs hw hP hD hS => ?_)
    obtain ⟨rfl, rfl⟩ := hw
    have hP : va_P (dC, dI) vwCl [(q_G, .inr (10, [u_G_0, u_G_1, u_G_2, .ref q_now, u_G_4, u_G_5, u_G_6, .ref q_outlook, u_G_8])), (q_outlook, .inr (2, [.ref q_sound, u_outlook_1, u_outlook_2, u_outlook_3, u_outlook_4, u_outlook_5])), (q_sound, .inr (5, [u_sound_0, u_sound_1, u_sound_2, u_sound_3, u_sound_4, u_sound_5, .int 0, u_sound_7, u_sound_8, u_sound_9]))] H := hP.sub [0, 1, 2] rfl
    have hD : va_D A [(q_G, .inr (10, [u_G_0, u_G_1, u_G_2, .ref q_now, u_G_4, u_G_5, u_G_6, .ref q_outlook, u_G_8])), (q_outlook, .inr (2, [.ref q_sound, u_outlook_1, u_outlook_2, u_outlook_3, u_outlook_4, u_outlook_5])), (q_sound, .inr (5, [u_sound_0, u_sound_1, u_sound_2, u_sound_3, u_sound_4, u_sound_5, .int 0, u_sound_7, u_sound_8, u_sound_9]))] := hD.sub [0, 1, 2] (by decide) rfl
    refine lv_if_ne (tgt := 28) hx hb dX10_wisest_22 (by decide) (fun _ => ?_) (fun h => absurd h (by decide +kernel))
    refine lv_aload_n hx hb dX10_wisest_28 rfl (lv_at hl 0 rfl) ?_
    refine q_get (v := .ref q_outlook) C inX10 hK hP 0 rfl rfl 7 (by decide) rfl L63 rfl dX10_wisest_29 ?_
    refine lv_aload_n hx hb dX10_wisest_32 rfl (lv_at hl 0 rfl) ?_
    refine q_get (v := .ref q_now) C inX10 hK hP 0 rfl rfl 3 (by decide) rfl L35 rfl dX10_wisest_33 ?_
    refine q_goi (wr := [(q_G, .inr (10, [u_G_0, u_G_1, u_G_2, .ref q_now, u_G_4, u_G_5, u_G_6, .ref q_outlook, u_G_8]))]) (va_runVN (As := [.ref q_now]) (rest := []) C (k_X2_wisestGuess l dC dI cB cI cJ cZ cS (q_sound) (q_now) (q_outlook) (u_outlook_1) (u_outlook_2) (u_outlook_3) (u_outlook_4) (u_outlook_5) (u_sound_0) (u_sound_1) (u_sound_2) (u_sound_3) (u_sound_4) (u_sound_5) (u_sound_7) (u_sound_8) (u_sound_9) _) ⟨va_cnB 1 hts gX10_wisest_X2_wisestGuess_n218 rfl rfl rfl (hN _ nwM_X10_218 rfl) (hts _ I_X2) (by decide +kernel) ⟨Nat.le_of_ble_eq_true rfl, Nat.le_of_ble_eq_true rfl⟩, hts _ N_X2_wisestGuess, hts _ E_X2_wisestGuess⟩ (q_preV hK hP (ci := 2) (q0 := 1) rfl rfl rfl (q_pre hN hK hP hD [1, 2] rfl (by decide))) rfl rfl hl.1 rfl (lv_room (Nat.le_of_ble_eq_true rfl)) dX10_wisest_36 ⟨Nat.le_of_ble_eq_true rfl, Nat.le_of_ble_eq_true rfl⟩) hP hD hS hA [1, 2] [0] rfl rfl (by decide) (by decide) (fun r w1 H locs hw hP hD hS => ?_)
    obtain ⟨rfl, rfl⟩ := hw
    have hP : va_P (dC, dI) vwCl [(q_G, .inr (10, [u_G_0, u_G_1, u_G_2, .ref q_now, u_G_4, u_G_5, u_G_6, .ref q_outlook, u_G_8])), (q_outlook, .inr (2, [.ref q_sound, u_outlook_1, u_outlook_2, u_outlook_3, u_outlook_4, u_outlook_5])), (q_sound, .inr (5, [u_sound_0, u_sound_1, u_sound_2, u_sound_3, u_sound_4, u_sound_5, .int 0, u_sound_7, u_sound_8, u_sound_9]))] H := hP.sub [0, 1, 2] rfl
    have hD : va_D A [(q_G, .inr (10, [u_G_0, u_G_1, u_G_2, .ref q_now, u_G_4, u_G_5, u_G_6, .ref q_outlook, u_G_8])), (q_outlook, .inr (2, [.ref q_sound, u_outlook_1, u_outlook_2, u_outlook_3, u_outlook_4, u_outlook_5])), (q_sound, .inr (5, [u_sound_0, u_sound_1, u_sound_2, u_sound_3, u_sound_4, u_sound_5, .int 0, u_sound_7, u_sound_8, u_sound_9]))] := hD.sub [0, 1, 2] (by decide) rfl
    refine lv_istore_n (lv' := [(2, .int 0), (0, .ref q_G), (1, .int x1)]) hx hb dX10_wisest_39 rfl hl (by decide) rfl (fun ls hl => ?_)
    refine lv_iload_n hx hb dX10_wisest_40 rfl (lv_at hl 2 rfl) ?_
    refine q_top (y := 0) (c1) ?_
    refine lv_if_ne (tgt := 48) hx hb dX10_wisest_41 (by decide) (fun h => absurd (by decide +kernel) h) (fun _ => ?_)
    refine lv_iload_n hx hb dX10_wisest_44 rfl (lv_at hl 0 rfl) ?_
    refine lv_goto (tgt := 60) hx hb dX10_wisest_45 (by decide) ?_
    exact q_iret C hr hlocks hK hP hD hS (Nat.le_of_ble_eq_true rfl) (Nat.le_of_ble_eq_true rfl) dX10_wisest_60 (by rw [c1]; decide +kernel)
  · skip
    refine lv_iload_n hx hb dX10_wisest_4 rfl (lv_at hl 1 rfl) ?_
    refine lv_iconst (v := 1) hx hb dX10_wisest_5 (by decide) ?_
    refine lv_icmp_eq (tgt := 11) hx hb dX10_wisest_6 (by decide) (fun c2 => ?_) (fun c2 => ?_)
    · skip
      refine lv_aload_n hx hb dX10_wisest_11 rfl (lv_at hl 0 rfl) ?_
      refine q_get (v := .ref q_outlook) C inX10 hK hP 0 rfl rfl 7 (by decide) rfl L63 rfl dX10_wisest_12 ?_
      refine lv_aload_n hx hb dX10_wisest_15 rfl (lv_at hl 0 rfl) ?_
      refine q_get (v := .ref q_now) C inX10 hK hP 0 rfl rfl 3 (by decide) rfl L35 rfl dX10_wisest_16 ?_
      refine q_goi (wr := [(q_G, .inr (10, [u_G_0, u_G_1, u_G_2, .ref q_now, u_G_4, u_G_5, u_G_6, .ref q_outlook, u_G_8]))]) (va_runVN (As := [.ref q_now]) (rest := []) C (k_X2_caseCount l dC dI cB cI cJ cZ cS (q_sound) (q_now) (q_outlook) (u_outlook_1) (u_outlook_2) (u_outlook_3) (u_outlook_4) (u_outlook_5) (u_sound_0) (u_sound_1) (u_sound_2) (u_sound_3) (u_sound_4) (u_sound_5) (u_sound_7) (u_sound_8) (u_sound_9) _) ⟨va_cnB 1 hts gX10_wisest_X2_caseCount_n196 rfl rfl rfl (hN _ nwM_X10_196 rfl) (hts _ I_X2) (by decide +kernel) ⟨Nat.le_of_ble_eq_true rfl, Nat.le_of_ble_eq_true rfl⟩, hts _ N_X2_caseCount, hts _ E_X2_caseCount⟩ (q_preV hK hP (ci := 2) (q0 := 1) rfl rfl rfl (q_pre hN hK hP hD [1, 2] rfl (by decide))) rfl rfl hl.1 rfl (lv_room (Nat.le_of_ble_eq_true rfl)) dX10_wisest_19 ⟨Nat.le_of_ble_eq_true rfl, Nat.le_of_ble_eq_true rfl⟩) hP hD hS hA [1, 2] [0] rfl rfl (by decide) (by decide) (fun r w1 H locs hw hP hD hS => ?_)
      obtain ⟨rfl, rfl⟩ := hw
      have hP : va_P (dC, dI) vwCl [(q_G, .inr (10, [u_G_0, u_G_1, u_G_2, .ref q_now, u_G_4, u_G_5, u_G_6, .ref q_outlook, u_G_8])), (q_outlook, .inr (2, [.ref q_sound, u_outlook_1, u_outlook_2, u_outlook_3, u_outlook_4, u_outlook_5])), (q_sound, .inr (5, [u_sound_0, u_sound_1, u_sound_2, u_sound_3, u_sound_4, u_sound_5, .int 0, u_sound_7, u_sound_8, u_sound_9]))] H := hP.sub [0, 1, 2] rfl
      have hD : va_D A [(q_G, .inr (10, [u_G_0, u_G_1, u_G_2, .ref q_now, u_G_4, u_G_5, u_G_6, .ref q_outlook, u_G_8])), (q_outlook, .inr (2, [.ref q_sound, u_outlook_1, u_outlook_2, u_outlook_3, u_outlook_4, u_outlook_5])), (q_sound, .inr (5, [u_sound_0, u_sound_1, u_sound_2, u_sound_3, u_sound_4, u_sound_5, .int 0, u_sound_7, u_sound_8, u_sound_9]))] := hD.sub [0, 1, 2] (by decide) rfl
      refine lv_if_ne (tgt := 28) hx hb dX10_wisest_22 (by decide) (fun _ => ?_) (fun h => absurd h (by decide +kernel))
      refine lv_aload_n hx hb dX10_wisest_28 rfl (lv_at hl 0 rfl) ?_
      refine q_get (v := .ref q_outlook) C inX10 hK hP 0 rfl rfl 7 (by decide) rfl L63 rfl dX10_wisest_29 ?_
      refine lv_aload_n hx hb dX10_wisest_32 rfl (lv_at hl 0 rfl) ?_
      refine q_get (v := .ref q_now) C inX10 hK hP 0 rfl rfl 3 (by decide) rfl L35 rfl dX10_wisest_33 ?_
      refine q_goi (wr := [(q_G, .inr (10, [u_G_0, u_G_1, u_G_2, .ref q_now, u_G_4, u_G_5, u_G_6, .ref q_outlook, u_G_8]))]) (va_runVN (As := [.ref q_now]) (rest := []) C (k_X2_wisestGuess l dC dI cB cI cJ cZ cS (q_sound) (q_now) (q_outlook) (u_outlook_1) (u_outlook_2) (u_outlook_3) (u_outlook_4) (u_outlook_5) (u_sound_0) (u_sound_1) (u_sound_2) (u_sound_3) (u_sound_4) (u_sound_5) (u_sound_7) (u_sound_8) (u_sound_9) _) ⟨va_cnB 1 hts gX10_wisest_X2_wisestGuess_n218 rfl rfl rfl (hN _ nwM_X10_218 rfl) (hts _ I_X2) (by decide +kernel) ⟨Nat.le_of_ble_eq_true rfl, Nat.le_of_ble_eq_true rfl⟩, hts _ N_X2_wisestGuess, hts _ E_X2_wisestGuess⟩ (q_preV hK hP (ci := 2) (q0 := 1) rfl rfl rfl (q_pre hN hK hP hD [1, 2] rfl (by decide))) rfl rfl hl.1 rfl (lv_room (Nat.le_of_ble_eq_true rfl)) dX10_wisest_36 ⟨Nat.le_of_ble_eq_true rfl, Nat.le_of_ble_eq_true rfl⟩) hP hD hS hA [1, 2] [0] rfl rfl (by decide) (by decide) (fun r w1 H locs hw hP hD hS => ?_)
      obtain ⟨rfl, rfl⟩ := hw
      have hP : va_P (dC, dI) vwCl [(q_G, .inr (10, [u_G_0, u_G_1, u_G_2, .ref q_now, u_G_4, u_G_5, u_G_6, .ref q_outlook, u_G_8])), (q_outlook, .inr (2, [.ref q_sound, u_outlook_1, u_outlook_2, u_outlook_3, u_outlook_4, u_outlook_5])), (q_sound, .inr (5, [u_sound_0, u_sound_1, u_sound_2, u_sound_3, u_sound_4, u_sound_5, .int 0, u_sound_7, u_sound_8, u_sound_9]))] H := hP.sub [0, 1, 2] rfl
      have hD : va_D A [(q_G, .inr (10, [u_G_0, u_G_1, u_G_2, .ref q_now, u_G_4, u_G_5, u_G_6, .ref q_outlook, u_G_8])), (q_outlook, .inr (2, [.ref q_sound, u_outlook_1, u_outlook_2, u_outlook_3, u_outlook_4, u_outlook_5])), (q_sound, .inr (5, [u_sound_0, u_sound_1, u_sound_2, u_sound_3, u_sound_4, u_sound_5, .int 0, u_sound_7, u_sound_8, u_sound_9]))] := hD.sub [0, 1, 2] (by decide) rfl
      refine lv_istore_n (lv' := [(2, .int 0), (0, .ref q_G), (1, .int x1)]) hx hb dX10_wisest_39 rfl hl (by decide) rfl (fun ls hl => ?_)
      refine lv_iload_n hx hb dX10_wisest_40 rfl (lv_at hl 2 rfl) ?_
      refine q_top (y := 1) (c2) ?_
      refine lv_if_ne (tgt := 48) hx hb dX10_wisest_41 (by decide) (fun _ => ?_) (fun h => absurd h (by decide +kernel))
      refine lv_aload_n hx hb dX10_wisest_48 rfl (lv_at hl 1 rfl) ?_
      refine q_get (v := .ref q_outlook) C inX10 hK hP 0 rfl rfl 7 (by decide) rfl L63 rfl dX10_wisest_49 ?_
      refine lv_aload_n hx hb dX10_wisest_52 rfl (lv_at hl 1 rfl) ?_
      refine q_get (v := .ref q_now) C inX10 hK hP 0 rfl rfl 3 (by decide) rfl L35 rfl dX10_wisest_53 ?_
      refine lv_iload_n hx hb dX10_wisest_56 rfl (lv_at hl 0 rfl) ?_
      refine q_goi (wr := [(q_G, .inr (10, [u_G_0, u_G_1, u_G_2, .ref q_now, u_G_4, u_G_5, u_G_6, .ref q_outlook, u_G_8]))]) (va_runVN (As := [.ref q_now, .int 0]) (rest := []) C (k_X2_leftBehind l dC dI cB cI cJ cZ cS (q_sound) (q_now) (q_outlook) (u_outlook_1) (u_outlook_2) (u_outlook_3) (u_outlook_4) (u_outlook_5) (u_sound_0) (u_sound_1) (u_sound_2) (u_sound_3) (u_sound_4) (u_sound_5) (u_sound_7) (u_sound_8) (u_sound_9) 0 _) ⟨va_cnB 2 hts gX10_wisest_X2_leftBehind_n215 rfl rfl rfl (hN _ nwM_X10_215 rfl) (hts _ I_X2) (by decide +kernel) ⟨Nat.le_of_ble_eq_true rfl, Nat.le_of_ble_eq_true rfl⟩, hts _ N_X2_leftBehind, hts _ E_X2_leftBehind⟩ (q_preV hK hP (ci := 2) (q0 := 1) rfl rfl rfl (q_pre hN hK hP hD [1, 2] rfl (by decide))) rfl rfl hl.1 rfl (lv_room (Nat.le_of_ble_eq_true rfl)) dX10_wisest_57 ⟨Nat.le_of_ble_eq_true rfl, Nat.le_of_ble_eq_true rfl⟩) hP hD hS hA [1, 2] [0] rfl rfl (by decide) (by decide) (fun r w1 H locs hw hP hD hS => ?_)
      obtain ⟨rfl, rfl⟩ := hw
      have hP : va_P (dC, dI) vwCl [(q_G, .inr (10, [u_G_0, u_G_1, u_G_2, .ref q_now, u_G_4, u_G_5, u_G_6, .ref q_outlook, u_G_8])), (q_outlook, .inr (2, [.ref q_sound, u_outlook_1, u_outlook_2, u_outlook_3, u_outlook_4, u_outlook_5])), (q_sound, .inr (5, [u_sound_0, u_sound_1, u_sound_2, u_sound_3, u_sound_4, u_sound_5, .int 0, u_sound_7, u_sound_8, u_sound_9]))] H := hP.sub [0, 1, 2] rfl
      have hD : va_D A [(q_G, .inr (10, [u_G_0, u_G_1, u_G_2, .ref q_now, u_G_4, u_G_5, u_G_6, .ref q_outlook, u_G_8])), (q_outlook, .inr (2, [.ref q_sound, u_outlook_1, u_outlook_2, u_outlook_3, u_outlook_4, u_outlook_5])), (q_sound, .inr (5, [u_sound_0, u_sound_1, u_sound_2, u_sound_3, u_sound_4, u_sound_5, .int 0, u_sound_7, u_sound_8, u_sound_9]))] := hD.sub [0, 1, 2] (by decide) rfl
      exact q_iret C hr hlocks hK hP hD hS (Nat.le_of_ble_eq_true rfl) (Nat.le_of_ble_eq_true rfl) dX10_wisest_60 (by rw [c2]; decide +kernel)
    · skip
      refine lv_iconst (v := (-1)) hx hb dX10_wisest_9 (by decide) ?_
      exact q_iret C hr hlocks hK hP hD hS (Nat.le_of_ble_eq_true rfl) (Nat.le_of_ble_eq_true rfl) dX10_wisest_10 (fr_wis_n c1 c2)
