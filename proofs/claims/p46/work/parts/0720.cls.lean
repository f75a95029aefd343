set_option maxRecDepth 20000 in
theorem ggX4_readTell_X4_readWave : GoodIn wsX4_readTell wsX4_readWave := goodIn_r _ [8, 3, 1, 2, 9, 10, 11, 7, 12, 13, 14, 15, 16, 17, 18, 19, 20, 21, 22, 23, 24, 25, 26, 27, 28, 29, 30, 31, 32, 88, 89, 90, 91, 92, 93, 94, 95, 103, 104, 105, 106, 107, 108, 109, 110, 111, 112, 96, 97, 98, 99, 100, 101, 102] (by decide +kernel) (by decide +kernel)
set_option maxRecDepth 20000 in
theorem gX4_readTell_X4_readWave : GoodIn wsX4_readTell (wsV RX4 84 RX4 yX4_readWave wsX4_readWave) := goodIn_app (goodIn_of _ (by decide +kernel)) ggX4_readTell_X4_readWave
set_option maxRecDepth 20000 in
theorem ggX4_readTell_X4_readParty : GoodIn wsX4_readTell wsX4_readParty := goodIn_r _ [36, 3, 1, 2, 37, 9, 10, 11, 7, 12, 13, 14, 15, 16, 17, 18, 19, 20, 21, 22, 38, 39, 40, 41, 27, 28, 29, 30, 31, 32, 23, 24, 25, 26, 88, 89, 90, 91, 92, 93, 94, 95, 103, 104, 105, 106, 107, 108, 109, 110, 111, 112, 96, 97, 98, 99, 100, 101, 102] (by decide +kernel) (by decide +kernel)
set_option maxRecDepth 20000 in
theorem gX4_readTell_X4_readParty : GoodIn wsX4_readTell (wsV RX4 87 RX4 yX4_readParty wsX4_readParty) := goodIn_app (goodIn_of _ (by decide +kernel)) ggX4_readTell_X4_readParty
set_option maxRecDepth 20000 in
theorem ggX4_readTell_X4_take : GoodIn wsX4_readTell wsX4_take := goodIn_r _ [18, 2, 19, 20, 21, 7, 22, 13, 1, 9, 10, 11, 12, 14, 88, 89, 90, 91, 92, 93, 94, 95, 96, 97, 98, 99, 100, 101, 102] (by decide +kernel) (by decide +kernel)
set_option maxRecDepth 20000 in
theorem gX4_readTell_X4_take : GoodIn wsX4_readTell (wsV RX4 81 RX4 yX4_take wsX4_take) := goodIn_app (goodIn_of _ (by decide +kernel)) ggX4_readTell_X4_take
set_option maxRecDepth 20000 in
theorem ggX4_readTell_X4_takeInt : GoodIn wsX4_readTell wsX4_takeInt := goodIn_r _ [26, 1, 2, 19, 20, 21, 7, 22, 13, 27, 28, 29, 30, 31, 32, 15, 16, 17, 18, 9, 10, 11, 12, 14, 88, 89, 90, 91, 92, 93, 94, 95, 96, 97, 98, 99, 100, 101, 102] (by decide +kernel) (by decide +kernel)
set_option maxRecDepth 20000 in
theorem gX4_readTell_X4_takeInt : GoodIn wsX4_readTell (wsV RX4 90 RX4 yX4_takeInt wsX4_takeInt) := goodIn_app (goodIn_of _ (by decide +kernel)) ggX4_readTell_X4_takeInt
set_option maxRecDepth 20000 in
theorem ggX4_readTell_X4_readLaw : GoodIn wsX4_readTell wsX4_readLaw := goodIn_r _ [45, 3, 15, 16, 17, 7, 18, 2, 19, 20, 21, 22, 13, 1, 9, 10, 11, 12, 14, 46, 47, 48, 49, 50, 51, 52, 53, 54, 55, 56, 57, 58, 59, 60, 61, 62, 63, 64, 65, 66, 67, 68, 69, 70, 71, 72, 73, 74, 75, 76, 77, 78, 79, 80, 81, 82, 83, 84, 85, 86, 87, 88, 89, 90, 91, 92, 93, 94, 95, 103, 104, 105, 106, 107, 108, 109, 110, 111, 112, 96, 97, 98, 99, 100, 101, 102, 113, 114, 115, 116, 117, 118, 119, 120, 121] (by decide +kernel) (by decide +kernel)
set_option maxRecDepth 20000 in
theorem gX4_readTell_X4_readLaw : GoodIn wsX4_readTell (wsV RX4 97 RX4 yX4_readLaw wsX4_readLaw) := goodIn_app (goodIn_of _ (by decide +kernel)) ggX4_readTell_X4_readLaw
set_option maxRecDepth 20000 in
theorem ggX4_readTell_X4_fail : GoodIn wsX4_readTell wsX4_fail := goodIn_r _ [12, 13, 1, 2, 14, 88, 89, 90, 91, 92, 93, 94, 95, 96, 97, 98, 99, 100, 101, 102] (by decide +kernel) (by decide +kernel)
set_option maxRecDepth 20000 in
theorem gX4_readTell_X4_fail : GoodIn wsX4_readTell (wsV RX4 70 RX4 yX4_fail wsX4_fail) := goodIn_app (goodIn_of _ (by decide +kernel)) ggX4_readTell_X4_fail
theorem dX4_readTell_0 : decode cX4_readTell 0 = .ok (.aload_n 0, 1) := by decide +kernel
theorem dX4_readTell_1 : decode cX4_readTell 1 = .ok (.getfield 31, 3) := by decide +kernel
theorem dX4_readTell_4 : decode cX4_readTell 4 = .ok (.getfield 63, 3) := by decide +kernel
theorem dX4_readTell_7 : decode cX4_readTell 7 = .ok (.aload_n 0, 1) := by decide +kernel
theorem dX4_readTell_8 : decode cX4_readTell 8 = .ok (.getfield 38, 3) := by decide +kernel
theorem dX4_readTell_11 : decode cX4_readTell 11 = .ok (.iaload, 1) := by decide +kernel
theorem dX4_readTell_12 : decode cX4_readTell 12 = .ok (.istore_n 1, 1) := by decide +kernel
theorem dX4_readTell_13 : decode cX4_readTell 13 = .ok (.iload_n 1, 1) := by decide +kernel
theorem dX4_readTell_14 : decode cX4_readTell 14 = .ok (.sipush 258, 3) := by decide +kernel
theorem dX4_readTell_17 : decode cX4_readTell 17 = .ok (.isub, 1) := by decide +kernel
theorem dX4_readTell_18 : decode cX4_readTell 18 = .ok (.istore_n 2, 1) := by decide +kernel
theorem dX4_readTell_19 : decode cX4_readTell 19 = .ok (.iload_n 1, 1) := by decide +kernel
theorem dX4_readTell_20 : decode cX4_readTell 20 = .ok (.sipush 256, 3) := by decide +kernel
theorem dX4_readTell_23 : decode cX4_readTell 23 = .ok (.if_icmp .ne 10, 3) := by decide +kernel
theorem dX4_readTell_26 : decode cX4_readTell 26 = .ok (.aload_n 0, 1) := by decide +kernel
theorem dX4_readTell_27 : decode cX4_readTell 27 = .ok (.invokevirtual 84, 3) := by decide +kernel
theorem dX4_readTell_30 : decode cX4_readTell 30 = .ok (.goto 81, 3) := by decide +kernel
theorem dX4_readTell_33 : decode cX4_readTell 33 = .ok (.iload_n 1, 1) := by decide +kernel
theorem dX4_readTell_34 : decode cX4_readTell 34 = .ok (.sipush 257, 3) := by decide +kernel
theorem dX4_readTell_37 : decode cX4_readTell 37 = .ok (.if_icmp .ne 10, 3) := by decide +kernel
theorem dX4_readTell_40 : decode cX4_readTell 40 = .ok (.aload_n 0, 1) := by decide +kernel
theorem dX4_readTell_41 : decode cX4_readTell 41 = .ok (.invokevirtual 87, 3) := by decide +kernel
theorem dX4_readTell_44 : decode cX4_readTell 44 = .ok (.goto 67, 3) := by decide +kernel
theorem dX4_readTell_47 : decode cX4_readTell 47 = .ok (.iload_n 1, 1) := by decide +kernel
theorem dX4_readTell_48 : decode cX4_readTell 48 = .ok (.sipush 262, 3) := by decide +kernel
theorem dX4_readTell_51 : decode cX4_readTell 51 = .ok (.if_icmp .ne 33, 3) := by decide +kernel
theorem dX4_readTell_54 : decode cX4_readTell 54 = .ok (.aload_n 0, 1) := by decide +kernel
theorem dX4_readTell_55 : decode cX4_readTell 55 = .ok (.sipush 262, 3) := by decide +kernel
theorem dX4_readTell_58 : decode cX4_readTell 58 = .ok (.invokevirtual 81, 3) := by decide +kernel
theorem dX4_readTell_61 : decode cX4_readTell 61 = .ok (.aload_n 0, 1) := by decide +kernel
theorem dX4_readTell_62 : decode cX4_readTell 62 = .ok (.getfield 12, 3) := by decide +kernel
theorem dX4_readTell_65 : decode cX4_readTell 65 = .ok (.aload_n 0, 1) := by decide +kernel
theorem dX4_readTell_66 : decode cX4_readTell 66 = .ok (.sipush 9999, 3) := by decide +kernel
theorem dX4_readTell_69 : decode cX4_readTell 69 = .ok (.invokevirtual 90, 3) := by decide +kernel
theorem dX4_readTell_72 : decode cX4_readTell 72 = .ok (.putfield 94, 3) := by decide +kernel
theorem dX4_readTell_75 : decode cX4_readTell 75 = .ok (.aload_n 0, 1) := by decide +kernel
theorem dX4_readTell_76 : decode cX4_readTell 76 = .ok (.bipush 59, 2) := by decide +kernel
theorem dX4_readTell_78 : decode cX4_readTell 78 = .ok (.invokevirtual 81, 3) := by decide +kernel
theorem dX4_readTell_81 : decode cX4_readTell 81 = .ok (.goto 30, 3) := by decide +kernel
theorem dX4_readTell_84 : decode cX4_readTell 84 = .ok (.iload_n 2, 1) := by decide +kernel
theorem dX4_readTell_85 : decode cX4_readTell 85 = .ok (.ifCond .lt 21, 3) := by decide +kernel
theorem dX4_readTell_88 : decode cX4_readTell 88 = .ok (.iload_n 2, 1) := by decide +kernel
theorem dX4_readTell_89 : decode cX4_readTell 89 = .ok (.iconst 4, 1) := by decide +kernel
theorem dX4_readTell_90 : decode cX4_readTell 90 = .ok (.if_icmp .ge 16, 3) := by decide +kernel
theorem dX4_readTell_93 : decode cX4_readTell 93 = .ok (.aload_n 0, 1) := by decide +kernel
theorem dX4_readTell_94 : decode cX4_readTell 94 = .ok (.iload_n 1, 1) := by decide +kernel
theorem dX4_readTell_95 : decode cX4_readTell 95 = .ok (.invokevirtual 81, 3) := by decide +kernel
theorem dX4_readTell_98 : decode cX4_readTell 98 = .ok (.aload_n 0, 1) := by decide +kernel
theorem dX4_readTell_99 : decode cX4_readTell 99 = .ok (.iload_n 2, 1) := by decide +kernel
theorem dX4_readTell_100 : decode cX4_readTell 100 = .ok (.invokevirtual 97, 3) := by decide +kernel
theorem dX4_readTell_103 : decode cX4_readTell 103 = .ok (.goto 8, 3) := by decide +kernel
theorem dX4_readTell_106 : decode cX4_readTell 106 = .ok (.aload_n 0, 1) := by decide +kernel
theorem dX4_readTell_107 : decode cX4_readTell 107 = .ok (.iconst 1, 1) := by decide +kernel
theorem dX4_readTell_108 : decode cX4_readTell 108 = .ok (.invokevirtual 70, 3) := by decide +kernel
theorem dX4_readTell_111 : decode cX4_readTell 111 = .ok (.return_, 1) := by decide +kernel
set_option maxRecDepth 20000 in
theorem ggX4_readLaw_X4_take : GoodIn wsX4_readLaw wsX4_take := goodIn_r _ [6, 7, 8, 9, 10, 5, 11, 12, 13, 14, 15, 16, 17, 18, 61, 62, 63, 64, 65, 66, 67, 68, 79, 80, 81, 82, 83, 84, 85] (by decide +kernel) (by decide +kernel)
set_option maxRecDepth 20000 in
theorem gX4_readLaw_X4_take : GoodIn wsX4_readLaw (wsV RX4 81 RX4 yX4_take wsX4_take) := goodIn_app (goodIn_of _ (by decide +kernel)) ggX4_readLaw_X4_take
set_option maxRecDepth 20000 in
theorem ggX4_readLaw_X1_begin : GoodIn wsX4_readLaw wsX1_begin := goodIn_r _ [22, 23, 24, 25, 26, 86, 87, 88, 89, 90, 91, 92, 93, 94] (by decide +kernel) (by decide +kernel)
set_option maxRecDepth 20000 in
theorem gX4_readLaw_X1_begin_n123 : GoodIn wsX4_readLaw (wsX1_begin) := ggX4_readLaw_X1_begin
set_option maxRecDepth 20000 in
theorem ggX4_readLaw_X4_isAt : GoodIn wsX4_readLaw wsX4_isAt := goodIn_r _ [11, 12, 13, 7, 61, 62, 63, 64, 65, 66, 67, 68, 79, 80, 81, 82, 83, 84, 85] (by decide +kernel) (by decide +kernel)
set_option maxRecDepth 20000 in
theorem gX4_readLaw_X4_isAt : GoodIn wsX4_readLaw (wsV RX4 53 RX4 yX4_isAt wsX4_isAt) := goodIn_app (goodIn_of _ (by decide +kernel)) ggX4_readLaw_X4_isAt
set_option maxRecDepth 20000 in
theorem ggX4_readLaw_X4_fail : GoodIn wsX4_readLaw wsX4_fail := goodIn_r _ [17, 12, 13, 7, 18, 61, 62, 63, 64, 65, 66, 67, 68, 79, 80, 81, 82, 83, 84, 85] (by decide +kernel) (by decide +kernel)
set_option maxRecDepth 20000 in
theorem gX4_readLaw_X4_fail : GoodIn wsX4_readLaw (wsV RX4 70 RX4 yX4_fail wsX4_fail) := goodIn_app (goodIn_of _ (by decide +kernel)) ggX4_readLaw_X4_fail
set_option maxRecDepth 20000 in
theorem ggX4_readLaw_X4_readPart : GoodIn wsX4_readLaw wsX4_readPart := goodIn_r _ [30, 1, 31, 32, 33, 5, 34, 13, 7, 35, 36, 37, 8, 9, 10, 11, 12, 2, 3, 4, 6, 14, 15, 16, 17, 18, 38, 20, 39, 40, 41, 42, 43, 44, 25, 45, 46, 47, 48, 49, 50, 51, 52, 53, 54, 55, 56, 57, 58, 59, 26, 23, 60, 61, 62, 63, 64, 65, 66, 67, 68, 69, 70, 71, 72, 73, 74, 75, 76, 77, 78, 79, 80, 81, 82, 83, 84, 85, 86, 87, 88, 89, 90, 91, 92, 93, 94] (by decide +kernel) (by decide +kernel)
set_option maxRecDepth 20000 in
theorem gX4_readLaw_X4_readPart : GoodIn wsX4_readLaw (wsV RX4 128 RX4 yX4_readPart wsX4_readPart) := goodIn_app (goodIn_of _ (by decide +kernel)) ggX4_readLaw_X4_readPart
theorem dX4_readLaw_0 : decode cX4_readLaw 0 = .ok (.aload_n 0, 1) := by decide +kernel
theorem dX4_readLaw_1 : decode cX4_readLaw 1 = .ok (.bipush 61, 2) := by decide +kernel
theorem dX4_readLaw_3 : decode cX4_readLaw 3 = .ok (.invokevirtual 81, 3) := by decide +kernel
theorem dX4_readLaw_6 : decode cX4_readLaw 6 = .ok (.aload_n 0, 1) := by decide +kernel
theorem dX4_readLaw_7 : decode cX4_readLaw 7 = .ok (.getfield 12, 3) := by decide +kernel
theorem dX4_readLaw_10 : decode cX4_readLaw 10 = .ok (.getfield 119, 3) := by decide +kernel
theorem dX4_readLaw_13 : decode cX4_readLaw 13 = .ok (.iload_n 1, 1) := by decide +kernel
theorem dX4_readLaw_14 : decode cX4_readLaw 14 = .ok (.invokevirtual 123, 3) := by decide +kernel
theorem dX4_readLaw_17 : decode cX4_readLaw 17 = .ok (.iconst 0, 1) := by decide +kernel
theorem dX4_readLaw_18 : decode cX4_readLaw 18 = .ok (.istore_n 2, 1) := by decide +kernel
theorem dX4_readLaw_19 : decode cX4_readLaw 19 = .ok (.iload_n 2, 1) := by decide +kernel
theorem dX4_readLaw_20 : decode cX4_readLaw 20 = .ok (.iconst 4, 1) := by decide +kernel
theorem dX4_readLaw_21 : decode cX4_readLaw 21 = .ok (.if_icmp .gt 56, 3) := by decide +kernel
theorem dX4_readLaw_24 : decode cX4_readLaw 24 = .ok (.aload_n 0, 1) := by decide +kernel
theorem dX4_readLaw_25 : decode cX4_readLaw 25 = .ok (.sipush 263, 3) := by decide +kernel
theorem dX4_readLaw_28 : decode cX4_readLaw 28 = .ok (.invokevirtual 53, 3) := by decide +kernel
theorem dX4_readLaw_31 : decode cX4_readLaw 31 = .ok (.ifCond .eq 46, 3) := by decide +kernel
theorem dX4_readLaw_34 : decode cX4_readLaw 34 = .ok (.iload_n 2, 1) := by decide +kernel
theorem dX4_readLaw_35 : decode cX4_readLaw 35 = .ok (.iconst 4, 1) := by decide +kernel
theorem dX4_readLaw_36 : decode cX4_readLaw 36 = .ok (.if_icmp .ne 8, 3) := by decide +kernel
theorem dX4_readLaw_39 : decode cX4_readLaw 39 = .ok (.aload_n 0, 1) := by decide +kernel
theorem dX4_readLaw_40 : decode cX4_readLaw 40 = .ok (.iconst 2, 1) := by decide +kernel
theorem dX4_readLaw_41 : decode cX4_readLaw 41 = .ok (.invokevirtual 70, 3) := by decide +kernel
theorem dX4_readLaw_44 : decode cX4_readLaw 44 = .ok (.aload_n 0, 1) := by decide +kernel
theorem dX4_readLaw_45 : decode cX4_readLaw 45 = .ok (.sipush 263, 3) := by decide +kernel
theorem dX4_readLaw_48 : decode cX4_readLaw 48 = .ok (.invokevirtual 81, 3) := by decide +kernel
theorem dX4_readLaw_51 : decode cX4_readLaw 51 = .ok (.aload_n 0, 1) := by decide +kernel
theorem dX4_readLaw_52 : decode cX4_readLaw 52 = .ok (.bipush 60, 2) := by decide +kernel
theorem dX4_readLaw_54 : decode cX4_readLaw 54 = .ok (.invokevirtual 128, 3) := by decide +kernel
theorem dX4_readLaw_57 : decode cX4_readLaw 57 = .ok (.aload_n 0, 1) := by decide +kernel
theorem dX4_readLaw_58 : decode cX4_readLaw 58 = .ok (.sipush 264, 3) := by decide +kernel
theorem dX4_readLaw_61 : decode cX4_readLaw 61 = .ok (.invokevirtual 128, 3) := by decide +kernel
theorem dX4_readLaw_64 : decode cX4_readLaw 64 = .ok (.aload_n 0, 1) := by decide +kernel
theorem dX4_readLaw_65 : decode cX4_readLaw 65 = .ok (.sipush 265, 3) := by decide +kernel
theorem dX4_readLaw_68 : decode cX4_readLaw 68 = .ok (.invokevirtual 128, 3) := by decide +kernel
theorem dX4_readLaw_71 : decode cX4_readLaw 71 = .ok (.iinc 2 1, 3) := by decide +kernel
theorem dX4_readLaw_74 : decode cX4_readLaw 74 = .ok (.goto (-55), 3) := by decide +kernel
theorem dX4_readLaw_77 : decode cX4_readLaw 77 = .ok (.aload_n 0, 1) := by decide +kernel
theorem dX4_readLaw_78 : decode cX4_readLaw 78 = .ok (.bipush 59, 2) := by decide +kernel
theorem dX4_readLaw_80 : decode cX4_readLaw 80 = .ok (.invokevirtual 128, 3) := by decide +kernel
theorem dX4_readLaw_83 : decode cX4_readLaw 83 = .ok (.return_, 1) := by decide +kernel
set_option maxRecDepth 20000 in
theorem ggX4_readPart_X4_readSum : GoodIn wsX4_readPart wsX4_readSum := goodIn_r _ [6, 7, 8, 1, 9, 10, 11, 5, 12, 13, 14, 15, 16, 17, 18, 19, 20, 21, 22, 23, 24, 25, 26, 27, 28, 29, 30, 31, 32, 33, 34, 35, 36, 37, 38, 39, 40, 41, 42, 43, 44, 45, 46, 2, 3, 4, 53, 54, 55, 56, 57, 58, 59, 60, 71, 72, 73, 74, 75, 76, 77, 61, 62, 63, 64, 65, 66, 67, 68, 69, 70, 78, 79, 80, 81, 82, 83, 84, 85, 86] (by decide +kernel) (by decide +kernel)
set_option maxRecDepth 20000 in
theorem gX4_readPart_X4_readSum : GoodIn wsX4_readPart (wsV RX4 131 RX4 yX4_readSum wsX4_readSum) := goodIn_app (goodIn_of _ (by decide +kernel)) ggX4_readPart_X4_readSum
set_option maxRecDepth 20000 in
theorem ggX4_readPart_X1_endPart : GoodIn wsX4_readPart wsX1_endPart := goodIn_r _ [49, 50, 51, 52, 34, 78, 79, 80, 81, 82, 83, 84, 85, 86] (by decide +kernel) (by decide +kernel)
set_option maxRecDepth 20000 in
theorem gX4_readPart_X1_endPart_n134 : GoodIn wsX4_readPart (wsX1_endPart) := ggX4_readPart_X1_endPart
set_option maxRecDepth 20000 in
theorem ggX4_readPart_X4_take : GoodIn wsX4_readPart wsX4_take := goodIn_r _ [20, 8, 12, 13, 14, 5, 15, 16, 7, 21, 22, 23, 24, 25, 53, 54, 55, 56, 57, 58, 59, 60, 71, 72, 73, 74, 75, 76, 77] (by decide +kernel) (by decide +kernel)
set_option maxRecDepth 20000 in
theorem gX4_readPart_X4_take : GoodIn wsX4_readPart (wsV RX4 81 RX4 yX4_take wsX4_take) := goodIn_app (goodIn_of _ (by decide +kernel)) ggX4_readPart_X4_take
theorem dX4_readPart_0 : decode cX4_readPart 0 = .ok (.aload_n 0, 1) := by decide +kernel
theorem dX4_readPart_1 : decode cX4_readPart 1 = .ok (.iconst 0, 1) := by decide +kernel
theorem dX4_readPart_2 : decode cX4_readPart 2 = .ok (.invokevirtual 131, 3) := by decide +kernel
theorem dX4_readPart_5 : decode cX4_readPart 5 = .ok (.aload_n 0, 1) := by decide +kernel
theorem dX4_readPart_6 : decode cX4_readPart 6 = .ok (.getfield 12, 3) := by decide +kernel
theorem dX4_readPart_9 : decode cX4_readPart 9 = .ok (.getfield 119, 3) := by decide +kernel
theorem dX4_readPart_12 : decode cX4_readPart 12 = .ok (.invokevirtual 134, 3) := by decide +kernel
theorem dX4_readPart_15 : decode cX4_readPart 15 = .ok (.aload_n 0, 1) := by decide +kernel
theorem dX4_readPart_16 : decode cX4_readPart 16 = .ok (.iload_n 1, 1) := by decide +kernel
theorem dX4_readPart_17 : decode cX4_readPart 17 = .ok (.invokevirtual 81, 3) := by decide +kernel
theorem dX4_readPart_20 : decode cX4_readPart 20 = .ok (.return_, 1) := by decide +kernel
set_option maxRecDepth 20000 in
theorem ggX10_sure_X10_isHere : GoodIn wsX10_sure wsX10_isHere := goodIn_r _ [9, 1, 3, 10, 11, 12, 13, 14, 131, 132, 133, 134, 135, 136, 137, 138, 139, 150, 151, 152, 153, 154, 155, 156, 140, 141, 142, 143, 144, 145, 146, 147, 148, 149] (by decide +kernel) (by decide +kernel)
set_option maxRecDepth 20000 in
theorem gX10_sure_X10_isHere : GoodIn wsX10_sure (wsV RX10 164 RX10 yX10_isHere wsX10_isHere) := goodIn_app (goodIn_of _ (by decide +kernel)) ggX10_sure_X10_isHere
set_option maxRecDepth 20000 in
theorem ggX10_sure_X6_copyFrom : GoodIn wsX10_sure wsX6_copyFrom := goodIn_r _ [18, 19, 20, 21, 22, 23, 24, 25, 26, 27, 28, 29, 150, 151, 152, 153, 154, 155, 156] (by decide +kernel) (by decide +kernel)
set_option maxRecDepth 20000 in
theorem gX10_sure_X6_copyFrom_n227 : GoodIn wsX10_sure (wsX6_copyFrom) := ggX10_sure_X6_copyFrom
set_option maxRecDepth 20000 in
theorem ggX10_sure_X2_oddsOverWithin : GoodIn wsX10_sure wsX2_oddsOverWithin := goodIn_r _ [33, 34, 35, 36, 37, 31, 38, 39, 40, 41, 42, 43, 44, 45, 46, 47, 48, 49, 50, 51, 52, 53, 8, 54, 55, 11, 56, 57, 58, 59, 60, 61, 62, 63, 64, 65, 66, 67, 68, 69, 70, 71, 72, 73, 74, 75, 76, 77, 78, 79, 80, 81, 82, 83, 84, 85, 86, 87, 88, 89, 90, 91, 92, 93, 94, 95, 96, 97, 98, 99, 100, 101, 102, 103, 104, 105, 106, 107, 108, 109, 110, 111, 112, 113, 114, 115, 116, 117, 118, 119, 120, 121, 122, 123, 124, 125, 126, 30, 32, 127, 128, 129, 130, 150, 151, 152, 153, 154, 155, 156, 157, 158, 159, 160, 161, 162, 140, 141, 142, 143, 144, 145, 146, 147, 148, 149, 163, 164, 165, 166, 167, 168, 169, 170, 171, 172, 173] (by decide +kernel) (by decide +kernel)
set_option maxRecDepth 20000 in
theorem gX10_sure_X2_oddsOverWithin_n229 : GoodIn wsX10_sure (wsX2_oddsOverWithin) := ggX10_sure_X2_oddsOverWithin
theorem dX10_sure_0 : decode cX10_sure 0 = .ok (.aload_n 0, 1) := by decide +kernel
theorem dX10_sure_1 : decode cX10_sure 1 = .ok (.iload_n 1, 1) := by decide +kernel
theorem dX10_sure_2 : decode cX10_sure 2 = .ok (.invokevirtual 164, 3) := by decide +kernel
theorem dX10_sure_5 : decode cX10_sure 5 = .ok (.ifCond .eq 24, 3) := by decide +kernel
theorem dX10_sure_8 : decode cX10_sure 8 = .ok (.aload_n 0, 1) := by decide +kernel
theorem dX10_sure_9 : decode cX10_sure 9 = .ok (.getfield 19, 3) := by decide +kernel
theorem dX10_sure_12 : decode cX10_sure 12 = .ok (.getfield 167, 3) := by decide +kernel
theorem dX10_sure_15 : decode cX10_sure 15 = .ok (.ifCond .eq 14, 3) := by decide +kernel
theorem dX10_sure_18 : decode cX10_sure 18 = .ok (.iload_n 2, 1) := by decide +kernel
theorem dX10_sure_19 : decode cX10_sure 19 = .ok (.iconst 1, 1) := by decide +kernel
theorem dX10_sure_20 : decode cX10_sure 20 = .ok (.if_icmp .lt 9, 3) := by decide +kernel
theorem dX10_sure_23 : decode cX10_sure 23 = .ok (.iload_n 2, 1) := by decide +kernel
theorem dX10_sure_24 : decode cX10_sure 24 = .ok (.bipush 8, 2) := by decide +kernel
theorem dX10_sure_26 : decode cX10_sure 26 = .ok (.if_icmp .le 5, 3) := by decide +kernel
theorem dX10_sure_29 : decode cX10_sure 29 = .ok (.iconst (-1), 1) := by decide +kernel
theorem dX10_sure_30 : decode cX10_sure 30 = .ok (.ireturn, 1) := by decide +kernel
theorem dX10_sure_31 : decode cX10_sure 31 = .ok (.aload_n 0, 1) := by decide +kernel
theorem dX10_sure_32 : decode cX10_sure 32 = .ok (.getfield 39, 3) := by decide +kernel
theorem dX10_sure_35 : decode cX10_sure 35 = .ok (.aload_n 0, 1) := by decide +kernel
theorem dX10_sure_36 : decode cX10_sure 36 = .ok (.getfield 35, 3) := by decide +kernel
theorem dX10_sure_39 : decode cX10_sure 39 = .ok (.invokevirtual 227, 3) := by decide +kernel
theorem dX10_sure_42 : decode cX10_sure 42 = .ok (.aload_n 0, 1) := by decide +kernel
theorem dX10_sure_43 : decode cX10_sure 43 = .ok (.getfield 63, 3) := by decide +kernel
theorem dX10_sure_46 : decode cX10_sure 46 = .ok (.aload_n 0, 1) := by decide +kernel
theorem dX10_sure_47 : decode cX10_sure 47 = .ok (.getfield 39, 3) := by decide +kernel
theorem dX10_sure_50 : decode cX10_sure 50 = .ok (.iload_n 1, 1) := by decide +kernel
theorem dX10_sure_51 : decode cX10_sure 51 = .ok (.iload_n 2, 1) := by decide +kernel
theorem dX10_sure_52 : decode cX10_sure 52 = .ok (.invokevirtual 229, 3) := by decide +kernel
theorem dX10_sure_55 : decode cX10_sure 55 = .ok (.ireturn, 1) := by decide +kernel
theorem LX4_readPart_12 : Cond.fieldLink RX4 12 "GuessFerry$Reader" "draft" "LGuessFerry$Sound;" ∈ wsX4_readPart := by decide +kernel
theorem LX4_readPart_E_X1_endPart : Cond.selects RX1 yX1_endPart yX1_endPart ∈ wsX4_readPart := by decide +kernel
theorem LX4_readPart_I_X1 : Cond.initialized RX1 ∈ wsX4_readPart := by decide +kernel
theorem LX4_readPart_N_X1_endPart : Cond.instanceMethod yX1_endPart ∈ wsX4_readPart := by decide +kernel
theorem inX4_readPart_X4 : ∀ w ∈ u_ws RX4 TX4 8, w ∈ wsX4_readPart := by decide +kernel
theorem inX4_readPart_X5 : ∀ w ∈ u_ws RX5 TX5 10, w ∈ wsX4_readPart := by decide +kernel
set_option maxHeartbeats 4000000 in
set_option maxRecDepth 100000 in
theorem bkX4_readPart {l : Launch} {dC : Nat → ClassId} {dI : Nat → Nat → Nat} {cB cI cJ cZ cS : ClassId} {a : Nat → Nat} {as : List Value} {s' : KS} (s : KS) (x1 : Int32) (hB : kX4_readPart s x1 = some s') : BlkV l yX4_readPart wsX4_readPart ({ frames := 27, cells := 0, slots := 0, locals := 617 }) cX4_readPart 2 none (dC, dI) (tysA cB cI cJ cZ cS) as 0 (wK cB cI cJ cZ cS a s) [(0, .ref (a 28)), (1, .int x1)] [] (fun u => u = (wK cB cI cJ cZ cS a s')) := by
  intro p e s0 m below meth c A E H locs ls hP hD hS hl
  obtain ⟨C, hr, hlocks, hA, hK, hN⟩ := id E
  obtain ⟨hx, hb, hml, hown, hts⟩ := id C
  unfold kX4_readPart at hB
  refine lv_aload_n hx hb dX4_readPart_0 rfl (lv_at hl 0 rfl) ?_
  refine lv_iconst (v := 0) hx hb dX4_readPart_1 (by decide) ?_
  obtain ⟨s1, hc, hB⟩ := bindP_inv hB
  refine q_govF (va_runV (As := [.int 0]) (rest := []) C (ckX4_readSum_8 hc _) (cwV 1 hts gX4_readPart_X4_readSum rfl rfl rfl (by decide +kernel) ⟨Nat.le_of_ble_eq_true rfl, Nat.le_of_ble_eq_true rfl⟩) (q_preV hK hP (ci := 4) (q0 := 28) rfl rfl rfl (q_preF hN hK hP hD)) rfl rfl hl.1 rfl (lv_room (Nat.le_of_ble_eq_true rfl)) dX4_readPart_2 ⟨Nat.le_of_ble_eq_true rfl, Nat.le_of_ble_eq_true rfl⟩) hD hS hA (fun w1 H locs hw hP hD hS => ?_)
  subst hw
  refine lv_aload_n hx hb dX4_readPart_5 rfl (lv_at hl 0 rfl) ?_
  refine q_get (v := .ref (a 15)) C inX4_readPart_X4 hK hP 28 rfl rfl 1 (by decide) rfl LX4_readPart_12 rfl dX4_readPart_6 ?_
  refine q_getN (v := .ref (a 21)) C hN inX4_readPart_X5 hK hP 15 rfl rfl 5 (by decide) rfl nwF_X4_119 rfl dX4_readPart_9 ?_
  obtain ⟨s2, hc, hB⟩ := bindP_inv hB
  refine q_govF (va_runVN (As := []) (rest := []) C (ckX1_endPart hc _) ⟨va_cnB 0 hts gX4_readPart_X1_endPart_n134 rfl rfl rfl (hN _ nwM_X4_134 rfl) (hts _ LX4_readPart_I_X1) (by decide +kernel) ⟨Nat.le_of_ble_eq_true rfl, Nat.le_of_ble_eq_true rfl⟩, hts _ LX4_readPart_N_X1_endPart, hts _ LX4_readPart_E_X1_endPart⟩ (q_preV hK hP (ci := 1) (q0 := 21) rfl rfl rfl (q_preF hN hK hP hD)) rfl rfl hl.1 rfl (lv_room (Nat.le_of_ble_eq_true rfl)) dX4_readPart_12 ⟨Nat.le_of_ble_eq_true rfl, Nat.le_of_ble_eq_true rfl⟩) hD hS hA (fun w1 H locs hw hP hD hS => ?_)
  subst hw
  refine lv_aload_n hx hb dX4_readPart_15 rfl (lv_at hl 0 rfl) ?_
  refine lv_iload_n hx hb dX4_readPart_16 rfl (lv_at hl 1 rfl) ?_
  obtain ⟨s3, hc, hB⟩ := bindP_inv hB
  refine q_govF (va_runV (As := [.int x1]) (rest := []) C (ckX4_take hc _) (cwV 1 hts gX4_readPart_X4_take rfl rfl rfl (by decide +kernel) ⟨Nat.le_of_ble_eq_true rfl, Nat.le_of_ble_eq_true rfl⟩) (q_preV hK hP (ci := 4) (q0 := 28) rfl rfl rfl (q_preF hN hK hP hD)) rfl rfl hl.1 rfl (lv_room (Nat.le_of_ble_eq_true rfl)) dX4_readPart_17 ⟨Nat.le_of_ble_eq_true rfl, Nat.le_of_ble_eq_true rfl⟩) hD hS hA (fun w1 H locs hw hP hD hS => ?_)
  subst hw
  exact q_vret C hr hlocks hK hP hD hS (Nat.le_of_ble_eq_true rfl) (Nat.le_of_ble_eq_true rfl) dX4_readPart_20 (by cases hB; rfl)
theorem ckX4_readPart {l : Launch} {dC : Nat → ClassId} {dI : Nat → Nat → Nat} {cB cI cJ cZ cS : ClassId} {a : Nat → Nat} {s' : KS} {s : KS} {x1 : Int32} (hB : kX4_readPart s x1 = some s') : CV l yX4_readPart wsX4_readPart ({ frames := 27, cells := 0, slots := 0, locals := 617 }) (dC, dI) (tysA cB cI cJ cZ cS) (wK cB cI cJ cZ cS a s) [.ref (a 28), .int x1] (fun u => u = (wK cB cI cJ cZ cS a s')) :=
  CV_of (cc := cX4_readPart) (maxL := 2) (ret := none) (by decide) rfl (Nat.le_of_ble_eq_true rfl) (bkX4_readPart _ _ hB)
theorem LX10_sure_19 : Cond.fieldLink RX10 19 "GuessFerry" "sound" "LGuessFerry$Sound;" ∈ wsX10_sure := by decide +kernel
theorem LX10_sure_35 : Cond.fieldLink RX10 35 "GuessFerry" "now" "LGuessFerry$Standing;" ∈ wsX10_sure := by decide +kernel
theorem LX10_sure_39 : Cond.fieldLink RX10 39 "GuessFerry" "trial" "LGuessFerry$Standing;" ∈ wsX10_sure := by decide +kernel
theorem LX10_sure_63 : Cond.fieldLink RX10 63 "GuessFerry" "outlook" "LGuessFerry$Outlook;" ∈ wsX10_sure := by decide +kernel
theorem LX10_sure_E_X2_oddsOverWithin : Cond.selects RX2 yX2_oddsOverWithin yX2_oddsOverWithin ∈ wsX10_sure := by decide +kernel
theorem LX10_sure_E_X6_copyFrom : Cond.selects RX6 yX6_copyFrom yX6_copyFrom ∈ wsX10_sure := by decide +kernel
theorem LX10_sure_I_X2 : Cond.initialized RX2 ∈ wsX10_sure := by decide +kernel
theorem LX10_sure_I_X6 : Cond.initialized RX6 ∈ wsX10_sure := by decide +kernel
theorem LX10_sure_N_X2_oddsOverWithin : Cond.instanceMethod yX2_oddsOverWithin ∈ wsX10_sure := by decide +kernel
theorem LX10_sure_N_X6_copyFrom : Cond.instanceMethod yX6_copyFrom ∈ wsX10_sure := by decide +kernel
theorem inX10_sure_X10 : ∀ w ∈ u_ws RX10 TX10 9, w ∈ wsX10_sure := by decide +kernel
theorem inX10_sure_X5 : ∀ w ∈ u_ws RX5 TX5 10, w ∈ wsX10_sure := by decide +kernel
set_option maxHeartbeats 4000000 in
set_option maxRecDepth 100000 in
theorem bkX10_sure {l : Launch} {dC : Nat → ClassId} {dI : Nat → Nat → Nat} {cB cI cJ cZ cS : ClassId} {a b b2 c0 : Nat → Nat} {rg sl : Nat → Option Nat} {as : List Value} {r : Int32} {s' : XS} (s : XS) (x1 : Int32) (x2 : Int32) (hB : kX10_sure s x1 x2 = some (r, s')) : BlkI l yX10_sure wsX10_sure ({ frames := 16, cells := 0, slots := 0, locals := 432 }) cX10_sure 3 (some .int) (dC, dI) (tysA cB cI cJ cZ cS) as 0 (wX cB cI cJ cZ cS a b b2 c0 rg sl s) [(0, .ref (c0 0)), (1, .int x1), (2, .int x2)] [] (fun x u => x = r ∧ u = (wX cB cI cJ cZ cS a b b2 c0 rg sl s')) := by
  intro p e s0 m below meth c A E H locs ls hP hD hS hl
  obtain ⟨C, hr, hlocks, hA, hK, hN⟩ := id E
  obtain ⟨hx, hb, hml, hown, hts⟩ := id C
  unfold kX10_sure at hB
  refine lv_aload_n hx hb dX10_sure_0 rfl (lv_at hl 0 rfl) ?_
  refine lv_iload_n hx hb dX10_sure_1 rfl (lv_at hl 1 rfl) ?_
  obtain ⟨q_, s1, hc, hB⟩ := bindI_inv hB
  refine q_goiF (va_runV (As := [.int x1]) (rest := []) C (ckX10_isHere hc _) (cwV 1 hts gX10_sure_X10_isHere rfl rfl rfl (by decide +kernel) ⟨Nat.le_of_ble_eq_true rfl, Nat.le_of_ble_eq_true rfl⟩) (q_preV hK hP (ci := 10) (q0 := 0) rfl rfl rfl (q_preF hN hK hP hD)) rfl rfl hl.1 rfl (lv_room (Nat.le_of_ble_eq_true rfl)) dX10_sure_2 ⟨Nat.le_of_ble_eq_true rfl, Nat.le_of_ble_eq_true rfl⟩) hD hS hA (fun r2 w1 H locs hw hP hD hS => ?_)
  obtain ⟨hq_, hw⟩ := hw; subst hw; subst hq_
  refine lv_if_eq (tgt := 29) hx hb dX10_sure_5 (by decide) (fun c3 => ?_) (fun c3 => ?_)
  · have hB := if_p hB c3
    refine lv_iconst (v := (-1)) hx hb dX10_sure_29 (by decide) ?_
    exact q_iret C hr hlocks hK hP hD hS (Nat.le_of_ble_eq_true rfl) (Nat.le_of_ble_eq_true rfl) dX10_sure_30 (by cases hB; exact ⟨rfl, rfl⟩)
  · have hB := if_n hB c3
    refine lv_aload_n hx hb dX10_sure_8 rfl (lv_at hl 0 rfl) ?_
    refine q_get (v := .ref (a 2)) C inX10_sure_X10 hK hP 0 rfl rfl 1 (by decide) rfl LX10_sure_19 rfl dX10_sure_9 ?_
    refine q_getN (v := .int (s1.k.v 1)) C hN inX10_sure_X5 hK hP 19 rfl rfl 6 (by decide) rfl nwF_X10_167 rfl dX10_sure_12 ?_
    refine lv_if_eq (tgt := 29) hx hb dX10_sure_15 (by decide) (fun c4 => ?_) (fun c4 => ?_)
    · have hB := if_p hB c4
      refine lv_iconst (v := (-1)) hx hb dX10_sure_29 (by decide) ?_
      exact q_iret C hr hlocks hK hP hD hS (Nat.le_of_ble_eq_true rfl) (Nat.le_of_ble_eq_true rfl) dX10_sure_30 (by cases hB; exact ⟨rfl, rfl⟩)
    · have hB := if_n hB c4
      refine lv_iload_n hx hb dX10_sure_18 rfl (lv_at hl 2 rfl) ?_
      refine lv_iconst (v := 1) hx hb dX10_sure_19 (by decide) ?_
      refine lv_icmp_lt (tgt := 29) hx hb dX10_sure_20 (by decide) (fun c5 => ?_) (fun c5 => ?_)
      · have hB := if_p hB c5
        refine lv_iconst (v := (-1)) hx hb dX10_sure_29 (by decide) ?_
        exact q_iret C hr hlocks hK hP hD hS (Nat.le_of_ble_eq_true rfl) (Nat.le_of_ble_eq_true rfl) dX10_sure_30 (by cases hB; exact ⟨rfl, rfl⟩)
      · have hB := if_n hB c5
        refine lv_iload_n hx hb dX10_sure_23 rfl (lv_at hl 2 rfl) ?_
        refine lv_bipush (v := 8) hx hb dX10_sure_24 (by decide) ?_
        refine lv_icmp_le (tgt := 31) hx hb dX10_sure_26 (by decide) (fun c6 => ?_) (fun c6 => ?_)
        · have hB := if_p hB c6
          refine lv_aload_n hx hb dX10_sure_31 rfl (lv_at hl 0 rfl) ?_
          refine q_get (v := .ref (b2 0)) C inX10_sure_X10 hK hP 0 rfl rfl 4 (by decide) rfl LX10_sure_39 rfl dX10_sure_32 ?_
          refine lv_aload_n hx hb dX10_sure_35 rfl (lv_at hl 0 rfl) ?_
          refine q_get (v := .ref (b 0)) C inX10_sure_X10 hK hP 0 rfl rfl 3 (by decide) rfl LX10_sure_35 rfl dX10_sure_36 ?_
          obtain ⟨s7, hc, hB⟩ := bindP_inv hB
          refine q_gov (wr := ((wG cZ cS a b b2 c0 rg sl s1.g) ++ (wK cB cI cJ cZ cS a s1.k))) (va_runVN (As := [.ref (b 0)]) (rest := []) C (ckX6_copyFrom hc _) ⟨va_cnB 1 hts gX10_sure_X6_copyFrom_n227 rfl rfl rfl (hN _ nwM_X10_227 rfl) (hts _ LX10_sure_I_X6) (by decide +kernel) ⟨Nat.le_of_ble_eq_true rfl, Nat.le_of_ble_eq_true rfl⟩, hts _ LX10_sure_N_X6_copyFrom, hts _ LX10_sure_E_X6_copyFrom⟩ (q_preV hK hP (ci := 6) (q0 := 5) rfl rfl rfl (q_pre hN hK hP hD [11, 12, 13, 14, 15, 16, 5, 6, 7, 8, 9, 10] rfl (by decide))) rfl rfl hl.1 rfl (lv_room (Nat.le_of_ble_eq_true rfl)) dX10_sure_39 ⟨Nat.le_of_ble_eq_true rfl, Nat.le_of_ble_eq_true rfl⟩) hP hD hS hA [11, 12, 13, 14, 15, 16, 5, 6, 7, 8, 9, 10] [0, 1, 2, 3, 4, 17, 18, 19, 20, 21, 22, 23, 24, 25, 26, 27, 28, 29, 30, 31, 32, 33, 34, 35, 36, 37, 38, 39, 40, 41, 42, 43, 44, 45, 46, 47, 48, 49, 50, 51, 52, 53, 54, 55, 56, 57, 58, 59, 60, 61, 62, 63] rfl rfl (by decide) (by decide) (fun w1 H locs hw hP hD hS => ?_)
          subst hw
          obtain ⟨s8, hs9, hB⟩ := letS_inv hB
          have hP : va_P (dC, dI) vwCl (wX cB cI cJ cZ cS a b b2 c0 rg sl s8) H := by subst hs9; exact hP.sub [0, 1, 2, 3, 4, 58, 59, 60, 61, 62, 63, 52, 53, 54, 55, 56, 57, 5, 6, 7, 8, 9, 10, 11, 12, 13, 14, 15, 16, 17, 18, 19, 20, 21, 22, 23, 24, 25, 26, 27, 28, 29, 30, 31, 32, 33, 34, 35, 36, 37, 38, 39, 40, 41, 42, 43, 44, 45, 46, 47, 48, 49, 50, 51] rfl
          have hD : va_D A (wX cB cI cJ cZ cS a b b2 c0 rg sl s8) := by subst hs9; exact hD.sub [0, 1, 2, 3, 4, 58, 59, 60, 61, 62, 63, 52, 53, 54, 55, 56, 57, 5, 6, 7, 8, 9, 10, 11, 12, 13, 14, 15, 16, 17, 18, 19, 20, 21, 22, 23, 24, 25, 26, 27, 28, 29, 30, 31, 32, 33, 34, 35, 36, 37, 38, 39, 40, 41, 42, 43, 44, 45, 46, 47, 48, 49, 50, 51] (by decide) rfl
          refine lv_aload_n hx hb dX10_sure_42 rfl (lv_at hl 0 rfl) ?_
          refine q_get (v := .ref (a 36)) C inX10_sure_X10 hK hP 0 rfl rfl 7 (by decide) rfl LX10_sure_63 rfl dX10_sure_43 ?_
          refine lv_aload_n hx hb dX10_sure_46 rfl (lv_at hl 0 rfl) ?_
          refine q_get (v := .ref (b2 0)) C inX10_sure_X10 hK hP 0 rfl rfl 4 (by decide) rfl LX10_sure_39 rfl dX10_sure_47 ?_
          refine lv_iload_n hx hb dX10_sure_50 rfl (lv_at hl 1 rfl) ?_
          refine lv_iload_n hx hb dX10_sure_51 rfl (lv_at hl 2 rfl) ?_
          obtain ⟨q_, s10, hc, hB⟩ := bindI_inv hB
          refine q_goi (wr := ((wG cZ cS a b b2 c0 rg sl s8.g) ++ (wD cI b s8.n))) (va_runVN (As := [.ref (b2 0), .int x1, .int x2]) (rest := []) C (ckX2_oddsOverWithin_9 hc _) ⟨va_cnB 3 hts gX10_sure_X2_oddsOverWithin_n229 rfl rfl rfl (hN _ nwM_X10_229 rfl) (hts _ LX10_sure_I_X2) (by decide +kernel) ⟨Nat.le_of_ble_eq_true rfl, Nat.le_of_ble_eq_true rfl⟩, hts _ LX10_sure_N_X2_oddsOverWithin, hts _ LX10_sure_E_X2_oddsOverWithin⟩ (q_preV hK hP (ci := 2) (q0 := 53) rfl rfl rfl (q_pre hN hK hP hD [5, 6, 7, 8, 9, 10, 17, 18, 19, 20, 21, 22, 23, 24, 25, 26, 27, 28, 29, 30, 31, 32, 33, 34, 35, 36, 37, 38, 39, 40, 41, 42, 43, 44, 45, 46, 47, 48, 49, 50, 51, 52, 53, 54, 55, 56, 57, 58, 59, 60, 61, 62, 63] rfl (by decide))) rfl rfl hl.1 rfl (lv_room (Nat.le_of_ble_eq_true rfl)) dX10_sure_52 ⟨Nat.le_of_ble_eq_true rfl, Nat.le_of_ble_eq_true rfl⟩) hP hD hS hA [5, 6, 7, 8, 9, 10, 17, 18, 19, 20, 21, 22, 23, 24, 25, 26, 27, 28, 29, 30, 31, 32, 33, 34, 35, 36, 37, 38, 39, 40, 41, 42, 43, 44, 45, 46, 47, 48, 49, 50, 51, 52, 53, 54, 55, 56, 57, 58, 59, 60, 61, 62, 63] [0, 1, 2, 3, 4, 11, 12, 13, 14, 15, 16] rfl rfl (by decide) (by decide) (fun r11 w1 H locs hw hP hD hS => ?_)
          obtain ⟨hq_, hw⟩ := hw; subst hw; subst hq_
          obtain ⟨s12, hs13, hB⟩ := letS_inv hB
          have hP : va_P (dC, dI) vwCl (wX cB cI cJ cZ cS a b b2 c0 rg sl s12) H := by subst hs13; exact hP.sub [0, 1, 2, 3, 4, 11, 12, 13, 14, 15, 16, 5, 6, 7, 8, 9, 10, 17, 18, 19, 20, 21, 22, 23, 24, 25, 26, 27, 28, 29, 30, 31, 32, 33, 34, 35, 36, 37, 38, 39, 40, 41, 42, 43, 44, 45, 46, 47, 48, 49, 50, 51, 52, 53, 54, 55, 56, 57, 58, 59, 60, 61, 62, 63] rfl
          have hD : va_D A (wX cB cI cJ cZ cS a b b2 c0 rg sl s12) := by subst hs13; exact hD.sub [0, 1, 2, 3, 4, 11, 12, 13, 14, 15, 16, 5, 6, 7, 8, 9, 10, 17, 18, 19, 20, 21, 22, 23, 24, 25, 26, 27, 28, 29, 30, 31, 32, 33, 34, 35, 36, 37, 38, 39, 40, 41, 42, 43, 44, 45, 46, 47, 48, 49, 50, 51, 52, 53, 54, 55, 56, 57, 58, 59, 60, 61, 62, 63] (by decide) rfl
          exact q_iret C hr hlocks hK hP hD hS (Nat.le_of_ble_eq_true rfl) (Nat.le_of_ble_eq_true rfl) dX10_sure_55 (by cases hB; exact ⟨rfl, rfl⟩)
        · have hB := if_n hB c6
          refine lv_iconst (v := (-1)) hx hb dX10_sure_29 (by decide) ?_
          exact q_iret C hr hlocks hK hP hD hS (Nat.le_of_ble_eq_true rfl) (Nat.le_of_ble_eq_true rfl) dX10_sure_30 (by cases hB; exact ⟨rfl, rfl⟩)
theorem ckX10_sure {l : Launch} {dC : Nat → ClassId} {dI : Nat → Nat → Nat} {cB cI cJ cZ cS : ClassId} {a b b2 c0 : Nat → Nat} {rg sl : Nat → Option Nat} {r : Int32} {s' : XS} {s : XS} {x1 : Int32} {x2 : Int32} (hB : kX10_sure s x1 x2 = some (r, s')) : CI l yX10_sure wsX10_sure ({ frames := 16, cells := 0, slots := 0, locals := 432 }) (dC, dI) (tysA cB cI cJ cZ cS) (wX cB cI cJ cZ cS a b b2 c0 rg sl s) [.ref (c0 0), .int x1, .int x2] (fun x u => x = r ∧ u = (wX cB cI cJ cZ cS a b b2 c0 rg sl s')) :=
  CI_of (cc := cX10_sure) (maxL := 3) (ret := (some .int)) (by decide) rfl (Nat.le_of_ble_eq_true rfl) (bkX10_sure _ _ _ hB)
theorem LX4_readLaw_12 : Cond.fieldLink RX4 12 "GuessFerry$Reader" "draft" "LGuessFerry$Sound;" ∈ wsX4_readLaw := by decide +kernel
theorem LX4_readLaw_E_X1_begin : Cond.selects RX1 yX1_begin yX1_begin ∈ wsX4_readLaw := by decide +kernel
theorem LX4_readLaw_I_X1 : Cond.initialized RX1 ∈ wsX4_readLaw := by decide +kernel
theorem LX4_readLaw_N_X1_begin : Cond.instanceMethod yX1_begin ∈ wsX4_readLaw := by decide +kernel
theorem inX4_readLaw_X4 : ∀ w ∈ u_ws RX4 TX4 8, w ∈ wsX4_readLaw := by decide +kernel
theorem inX4_readLaw_X5 : ∀ w ∈ u_ws RX5 TX5 10, w ∈ wsX4_readLaw := by decide +kernel
set_option maxHeartbeats 4000000 in
set_option maxRecDepth 100000 in
theorem bkX4_readLaw_77 {l : Launch} {dC : Nat → ClassId} {dI : Nat → Nat → Nat} {cB cI cJ cZ cS : ClassId} {a : Nat → Nat} {as : List Value} {s' : KS} (s : KS) (hB : kX4_readLaw_77 s = some s') : BlkV l yX4_readLaw wsX4_readLaw ({ frames := 28, cells := 0, slots := 0, locals := 638 }) cX4_readLaw 3 none (dC, dI) (tysA cB cI cJ cZ cS) as 77 (wK cB cI cJ cZ cS a s) [(0, .ref (a 28))] [] (fun u => u = (wK cB cI cJ cZ cS a s')) := by
  intro p e s0 m below meth c A E H locs ls hP hD hS hl
  obtain ⟨C, hr, hlocks, hA, hK, hN⟩ := id E
  obtain ⟨hx, hb, hml, hown, hts⟩ := id C
  unfold kX4_readLaw_77 at hB
  refine lv_aload_n hx hb dX4_readLaw_77 rfl (lv_at hl 0 rfl) ?_
  refine lv_bipush (v := 59) hx hb dX4_readLaw_78 (by decide) ?_
  obtain ⟨s1, hc, hB⟩ := bindP_inv hB
  refine q_govF (va_runV (As := [.int 59]) (rest := []) C (ckX4_readPart hc _) (cwV 1 hts gX4_readLaw_X4_readPart rfl rfl rfl (by decide +kernel) ⟨Nat.le_of_ble_eq_true rfl, Nat.le_of_ble_eq_true rfl⟩) (q_preV hK hP (ci := 4) (q0 := 28) rfl rfl rfl (q_preF hN hK hP hD)) rfl rfl hl.1 rfl (lv_room (Nat.le_of_ble_eq_true rfl)) dX4_readLaw_80 ⟨Nat.le_of_ble_eq_true rfl, Nat.le_of_ble_eq_true rfl⟩) hD hS hA (fun w1 H locs hw hP hD hS => ?_)
  subst hw
  exact q_vret C hr hlocks hK hP hD hS (Nat.le_of_ble_eq_true rfl) (Nat.le_of_ble_eq_true rfl) dX4_readLaw_83 (by cases hB; rfl)
set_option maxHeartbeats 4000000 in
set_option maxRecDepth 100000 in
theorem bkX4_readLaw_44 {l : Launch} {dC : Nat → ClassId} {dI : Nat → Nat → Nat} {cB cI cJ cZ cS : ClassId} {a : Nat → Nat} {as : List Value} {s' : KS} {k19 : KS → Int32 → Option KS} (hk19 : ∀ (s : KS) (x2 : Int32), k19 s x2 = some s' → BlkV l yX4_readLaw wsX4_readLaw ({ frames := 28, cells := 0, slots := 0, locals := 638 }) cX4_readLaw 3 none (dC, dI) (tysA cB cI cJ cZ cS) as 19 (wK cB cI cJ cZ cS a s) [(0, .ref (a 28)), (2, .int x2)] [] (fun u => u = (wK cB cI cJ cZ cS a s'))) (s : KS) (x2 : Int32) (hB : kX4_readLaw_44 k19 s x2 = some s') : BlkV l yX4_readLaw wsX4_readLaw ({ frames := 28, cells := 0, slots := 0, locals := 638 }) cX4_readLaw 3 none (dC, dI) (tysA cB cI cJ cZ cS) as 44 (wK cB cI cJ cZ cS a s) [(0, .ref (a 28)), (2, .int x2)] [] (fun u => u = (wK cB cI cJ cZ cS a s')) := by
  intro p e s0 m below meth c A E H locs ls hP hD hS hl
  obtain ⟨C, hr, hlocks, hA, hK, hN⟩ := id E
  obtain ⟨hx, hb, hml, hown, hts⟩ := id C
  unfold kX4_readLaw_44 at hB
  refine lv_aload_n hx hb dX4_readLaw_44 rfl (lv_at hl 0 rfl) ?_
  refine lv_sipush (v := 263) hx hb dX4_readLaw_45 (by decide) ?_
  obtain ⟨s1, hc, hB⟩ := bindP_inv hB
  refine q_govF (va_runV (As := [.int 263]) (rest := []) C (ckX4_take hc _) (cwV 1 hts gX4_readLaw_X4_take rfl rfl rfl (by decide +kernel) ⟨Nat.le_of_ble_eq_true rfl, Nat.le_of_ble_eq_true rfl⟩) (q_preV hK hP (ci := 4) (q0 := 28) rfl rfl rfl (q_preF hN hK hP hD)) rfl rfl hl.1 rfl (lv_room (Nat.le_of_ble_eq_true rfl)) dX4_readLaw_48 ⟨Nat.le_of_ble_eq_true rfl, Nat.le_of_ble_eq_true rfl⟩) hD hS hA (fun w1 H locs hw hP hD hS => ?_)
  subst hw
  refine lv_aload_n hx hb dX4_readLaw_51 rfl (lv_at hl 0 rfl) ?_
  refine lv_bipush (v := 60) hx hb dX4_readLaw_52 (by decide) ?_
  obtain ⟨s2, hc, hB⟩ := bindP_inv hB
  refine q_govF (va_runV (As := [.int 60]) (rest := []) C (ckX4_readPart hc _) (cwV 1 hts gX4_readLaw_X4_readPart rfl rfl rfl (by decide +kernel) ⟨Nat.le_of_ble_eq_true rfl, Nat.le_of_ble_eq_true rfl⟩) (q_preV hK hP (ci := 4) (q0 := 28) rfl rfl rfl (q_preF hN hK hP hD)) rfl rfl hl.1 rfl (lv_room (Nat.le_of_ble_eq_true rfl)) dX4_readLaw_54 ⟨Nat.le_of_ble_eq_true rfl, Nat.le_of_ble_eq_true rfl⟩) hD hS hA (fun w1 H locs hw hP hD hS => ?_)
  subst hw
  refine lv_aload_n hx hb dX4_readLaw_57 rfl (lv_at hl 0 rfl) ?_
  refine lv_sipush (v := 264) hx hb dX4_readLaw_58 (by decide) ?_
  obtain ⟨s3, hc, hB⟩ := bindP_inv hB
  refine q_govF (va_runV (As := [.int 264]) (rest := []) C (ckX4_readPart hc _) (cwV 1 hts gX4_readLaw_X4_readPart rfl rfl rfl (by decide +kernel) ⟨Nat.le_of_ble_eq_true rfl, Nat.le_of_ble_eq_true rfl⟩) (q_preV hK hP (ci := 4) (q0 := 28) rfl rfl rfl (q_preF hN hK hP hD)) rfl rfl hl.1 rfl (lv_room (Nat.le_of_ble_eq_true rfl)) dX4_readLaw_61 ⟨Nat.le_of_ble_eq_true rfl, Nat.le_of_ble_eq_true rfl⟩) hD hS hA (fun w1 H locs hw hP hD hS => ?_)
  subst hw
  refine lv_aload_n hx hb dX4_readLaw_64 rfl (lv_at hl 0 rfl) ?_
  refine lv_sipush (v := 265) hx hb dX4_readLaw_65 (by decide) ?_
  obtain ⟨s4, hc, hB⟩ := bindP_inv hB
  refine q_govF (va_runV (As := [.int 265]) (rest := []) C (ckX4_readPart hc _) (cwV 1 hts gX4_readLaw_X4_readPart rfl rfl rfl (by decide +kernel) ⟨Nat.le_of_ble_eq_true rfl, Nat.le_of_ble_eq_true rfl⟩) (q_preV hK hP (ci := 4) (q0 := 28) rfl rfl rfl (q_preF hN hK hP hD)) rfl rfl hl.1 rfl (lv_room (Nat.le_of_ble_eq_true rfl)) dX4_readLaw_68 ⟨Nat.le_of_ble_eq_true rfl, Nat.le_of_ble_eq_true rfl⟩) hD hS hA (fun w1 H locs hw hP hD hS => ?_)
  subst hw
  refine lv_iinc (v := (x2 + 1)) (lv' := [(2, .int (x2 + 1)), (0, .ref (a 28))]) hx hb dX4_readLaw_71 hl (k := 1) rfl (rfl) (by decide) rfl (fun ls hl => ?_)
  refine lv_goto (tgt := 19) hx hb dX4_readLaw_74 (by decide) ?_
  exact hk19 _ _ hB p e s0 m below meth c A E H locs ls hP hD hS (lv_sub hl [1, 0] rfl)
set_option maxHeartbeats 4000000 in
set_option maxRecDepth 100000 in
theorem bkX4_readLaw_19 {l : Launch} {dC : Nat → ClassId} {dI : Nat → Nat → Nat} {cB cI cJ cZ cS : ClassId} {a : Nat → Nat} {as : List Value} {s' : KS} {k19 : KS → Int32 → Option KS} (hk19 : ∀ (s : KS) (x2 : Int32), k19 s x2 = some s' → BlkV l yX4_readLaw wsX4_readLaw ({ frames := 28, cells := 0, slots := 0, locals := 638 }) cX4_readLaw 3 none (dC, dI) (tysA cB cI cJ cZ cS) as 19 (wK cB cI cJ cZ cS a s) [(0, .ref (a 28)), (2, .int x2)] [] (fun u => u = (wK cB cI cJ cZ cS a s'))) (s : KS) (x2 : Int32) (hB : kX4_readLaw_19 k19 s x2 = some s') : BlkV l yX4_readLaw wsX4_readLaw ({ frames := 28, cells := 0, slots := 0, locals := 638 }) cX4_readLaw 3 none (dC, dI) (tysA cB cI cJ cZ cS) as 19 (wK cB cI cJ cZ cS a s) [(0, .ref (a 28)), (2, .int x2)] [] (fun u => u = (wK cB cI cJ cZ cS a s')) := by
  intro p e s0 m below meth c A E H locs ls hP hD hS hl
  obtain ⟨C, hr, hlocks, hA, hK, hN⟩ := id E
  obtain ⟨hx, hb, hml, hown, hts⟩ := id C
  unfold kX4_readLaw_19 at hB
  refine lv_iload_n hx hb dX4_readLaw_19 rfl (lv_at hl 1 rfl) ?_
  refine lv_iconst (v := 4) hx hb dX4_readLaw_20 (by decide) ?_
  refine lv_icmp_gt (tgt := 77) hx hb dX4_readLaw_21 (by decide) (fun c1 => ?_) (fun c1 => ?_)
  · have hB := if_p hB c1
    exact bkX4_readLaw_77 _ hB p e s0 m below meth c A E H locs ls hP hD hS (lv_sub hl [0] rfl)
  · have hB := if_n hB c1
    refine lv_aload_n hx hb dX4_readLaw_24 rfl (lv_at hl 0 rfl) ?_
    refine lv_sipush (v := 263) hx hb dX4_readLaw_25 (by decide) ?_
    obtain ⟨q_, s2, hc, hB⟩ := bindI_inv hB
    refine q_goiF (va_runV (As := [.int 263]) (rest := []) C (ckX4_isAt hc _) (cwV 1 hts gX4_readLaw_X4_isAt rfl rfl rfl (by decide +kernel) ⟨Nat.le_of_ble_eq_true rfl, Nat.le_of_ble_eq_true rfl⟩) (q_preV hK hP (ci := 4) (q0 := 28) rfl rfl rfl (q_preF hN hK hP hD)) rfl rfl hl.1 rfl (lv_room (Nat.le_of_ble_eq_true rfl)) dX4_readLaw_28 ⟨Nat.le_of_ble_eq_true rfl, Nat.le_of_ble_eq_true rfl⟩) hD hS hA (fun r3 w1 H locs hw hP hD hS => ?_)
    obtain ⟨hq_, hw⟩ := hw; subst hw; subst hq_
    refine lv_if_eq (tgt := 77) hx hb dX4_readLaw_31 (by decide) (fun c4 => ?_) (fun c4 => ?_)
    · have hB := if_p hB c4
      exact bkX4_readLaw_77 _ hB p e s0 m below meth c A E H locs ls hP hD hS (lv_sub hl [0] rfl)
    · have hB := if_n hB c4
      refine lv_iload_n hx hb dX4_readLaw_34 rfl (lv_at hl 1 rfl) ?_
      refine lv_iconst (v := 4) hx hb dX4_readLaw_35 (by decide) ?_
      refine lv_icmp_ne (tgt := 44) hx hb dX4_readLaw_36 (by decide) (fun c5 => ?_) (fun c5 => ?_)
      · have hB := if_n hB c5
        exact bkX4_readLaw_44 (hk19) _ _ hB p e s0 m below meth c A E H locs ls hP hD hS (lv_sub hl [0, 1] rfl)
      · have hB := if_p hB c5
        refine lv_aload_n hx hb dX4_readLaw_39 rfl (lv_at hl 0 rfl) ?_
        refine lv_iconst (v := 2) hx hb dX4_readLaw_40 (by decide) ?_
        obtain ⟨s6, hc, hB⟩ := bindP_inv hB
        refine q_govF (va_runV (As := [.int 2]) (rest := []) C (ckX4_fail hc _) (cwV 1 hts gX4_readLaw_X4_fail rfl rfl rfl (by decide +kernel) ⟨Nat.le_of_ble_eq_true rfl, Nat.le_of_ble_eq_true rfl⟩) (q_preV hK hP (ci := 4) (q0 := 28) rfl rfl rfl (q_preF hN hK hP hD)) rfl rfl hl.1 rfl (lv_room (Nat.le_of_ble_eq_true rfl)) dX4_readLaw_41 ⟨Nat.le_of_ble_eq_true rfl, Nat.le_of_ble_eq_true rfl⟩) hD hS hA (fun w1 H locs hw hP hD hS => ?_)
        subst hw
        exact bkX4_readLaw_44 (hk19) _ _ hB p e s0 m below meth c A E H locs ls hP hD hS (lv_sub hl [0, 1] rfl)
theorem bkX4_readLaw_19L {l : Launch} {dC : Nat → ClassId} {dI : Nat → Nat → Nat} {cB cI cJ cZ cS : ClassId} {a : Nat → Nat} {as : List Value} {s' : KS} : ∀ (n : Nat) (s : KS) (x2 : Int32), kX4_readLaw_19L n s x2 = some s' → BlkV l yX4_readLaw wsX4_readLaw ({ frames := 28, cells := 0, slots := 0, locals := 638 }) cX4_readLaw 3 none (dC, dI) (tysA cB cI cJ cZ cS) as 19 (wK cB cI cJ cZ cS a s) [(0, .ref (a 28)), (2, .int x2)] [] (fun u => u = (wK cB cI cJ cZ cS a s')) := by
  intro n
  induction n with
  | zero => intro s x2 hB; exact none_ne hB
  | succ n ih => intro s x2 hB; exact bkX4_readLaw_19 ih _ _ hB
set_option maxHeartbeats 4000000 in
set_option maxRecDepth 100000 in
theorem bkX4_readLaw {l : Launch} {dC : Nat → ClassId} {dI : Nat → Nat → Nat} {cB cI cJ cZ cS : ClassId} {a : Nat → Nat} {as : List Value} {s' : KS} (s : KS) (x1 : Int32) (hB : kX4_readLaw s x1 = some s') : BlkV l yX4_readLaw wsX4_readLaw ({ frames := 28, cells := 0, slots := 0, locals := 638 }) cX4_readLaw 3 none (dC, dI) (tysA cB cI cJ cZ cS) as 0 (wK cB cI cJ cZ cS a s) [(0, .ref (a 28)), (1, .int x1)] [] (fun u => u = (wK cB cI cJ cZ cS a s')) := by
  intro p e s0 m below meth c A E H locs ls hP hD hS hl
  obtain ⟨C, hr, hlocks, hA, hK, hN⟩ := id E
  obtain ⟨hx, hb, hml, hown, hts⟩ := id C
  unfold kX4_readLaw at hB
  refine lv_aload_n hx hb dX4_readLaw_0 rfl (lv_at hl 0 rfl) ?_
  refine lv_bipush (v := 61) hx hb dX4_readLaw_1 (by decide) ?_
  obtain ⟨s1, hc, hB⟩ := bindP_inv hB
  refine q_govF (va_runV (As := [.int 61]) (rest := []) C (ckX4_take hc _) (cwV 1 hts gX4_readLaw_X4_take rfl rfl rfl (by decide +kernel) ⟨Nat.le_of_ble_eq_true rfl, Nat.le_of_ble_eq_true rfl⟩) (q_preV hK hP (ci := 4) (q0 := 28) rfl rfl rfl (q_preF hN hK hP hD)) rfl rfl hl.1 rfl (lv_room (Nat.le_of_ble_eq_true rfl)) dX4_readLaw_3 ⟨Nat.le_of_ble_eq_true rfl, Nat.le_of_ble_eq_true rfl⟩) hD hS hA (fun w1 H locs hw hP hD hS => ?_)
  subst hw
  refine lv_aload_n hx hb dX4_readLaw_6 rfl (lv_at hl 0 rfl) ?_
  refine q_get (v := .ref (a 15)) C inX4_readLaw_X4 hK hP 28 rfl rfl 1 (by decide) rfl LX4_readLaw_12 rfl dX4_readLaw_7 ?_
  refine q_getN (v := .ref (a 21)) C hN inX4_readLaw_X5 hK hP 15 rfl rfl 5 (by decide) rfl nwF_X4_119 rfl dX4_readLaw_10 ?_
  refine lv_iload_n hx hb dX4_readLaw_13 rfl (lv_at hl 1 rfl) ?_
  obtain ⟨s2, hc, hB⟩ := bindP_inv hB
  refine q_govF (va_runVN (As := [.int x1]) (rest := []) C (ckX1_begin hc _) ⟨va_cnB 1 hts gX4_readLaw_X1_begin_n123 rfl rfl rfl (hN _ nwM_X4_123 rfl) (hts _ LX4_readLaw_I_X1) (by decide +kernel) ⟨Nat.le_of_ble_eq_true rfl, Nat.le_of_ble_eq_true rfl⟩, hts _ LX4_readLaw_N_X1_begin, hts _ LX4_readLaw_E_X1_begin⟩ (q_preV hK hP (ci := 1) (q0 := 21) rfl rfl rfl (q_preF hN hK hP hD)) rfl rfl hl.1 rfl (lv_room (Nat.le_of_ble_eq_true rfl)) dX4_readLaw_14 ⟨Nat.le_of_ble_eq_true rfl, Nat.le_of_ble_eq_true rfl⟩) hD hS hA (fun w1 H locs hw hP hD hS => ?_)
  subst hw
  refine lv_iconst (v := 0) hx hb dX4_readLaw_17 (by decide) ?_
  refine lv_istore_n (lv' := [(2, .int 0), (0, .ref (a 28)), (1, .int x1)]) hx hb dX4_readLaw_18 rfl hl (by decide) rfl (fun ls hl => ?_)
  exact bkX4_readLaw_19L fu _ _ hB p e s0 m below meth c A E H locs ls hP hD hS (lv_sub hl [1, 0] rfl)
theorem ckX4_readLaw {l : Launch} {dC : Nat → ClassId} {dI : Nat → Nat → Nat} {cB cI cJ cZ cS : ClassId} {a : Nat → Nat} {s' : KS} {s : KS} {x1 : Int32} (hB : kX4_readLaw s x1 = some s') : CV l yX4_readLaw wsX4_readLaw ({ frames := 28, cells := 0, slots := 0, locals := 638 }) (dC, dI) (tysA cB cI cJ cZ cS) (wK cB cI cJ cZ cS a s) [.ref (a 28), .int x1] (fun u => u = (wK cB cI cJ cZ cS a s')) :=
  CV_of (cc := cX4_readLaw) (maxL := 3) (ret := none) (by decide) rfl (Nat.le_of_ble_eq_true rfl) (bkX4_readLaw _ _ hB)
theorem LX4_readTell_12 : Cond.fieldLink RX4 12 "GuessFerry$Reader" "draft" "LGuessFerry$Sound;" ∈ wsX4_readTell := by decide +kernel
theorem LX4_readTell_31 : Cond.fieldLink RX4 31 "GuessFerry$Reader" "tokens" "LGuessFerry$Tokens;" ∈ wsX4_readTell := by decide +kernel
theorem LX4_readTell_38 : Cond.fieldLink RX4 38 "GuessFerry$Reader" "at" "I" ∈ wsX4_readTell := by decide +kernel
theorem inX4_readTell_X4 : ∀ w ∈ u_ws RX4 TX4 8, w ∈ wsX4_readTell := by decide +kernel
theorem inX4_readTell_X5 : ∀ w ∈ u_ws RX5 TX5 10, w ∈ wsX4_readTell := by decide +kernel
theorem inX4_readTell_X9 : ∀ w ∈ u_ws RX9 TX9 7, w ∈ wsX4_readTell := by decide +kernel
set_option maxHeartbeats 4000000 in
set_option maxRecDepth 100000 in
theorem bkX4_readTell_106 {l : Launch} {dC : Nat → ClassId} {dI : Nat → Nat → Nat} {cB cI cJ cZ cS : ClassId} {a : Nat → Nat} {as : List Value} {s' : KS} (s : KS) (hB : kX4_readTell_106 s = some s') : BlkV l yX4_readTell wsX4_readTell ({ frames := 29, cells := 0, slots := 0, locals := 660 }) cX4_readTell 3 none (dC, dI) (tysA cB cI cJ cZ cS) as 106 (wK cB cI cJ cZ cS a s) [(0, .ref (a 28))] [] (fun u => u = (wK cB cI cJ cZ cS a s')) := by
  intro p e s0 m below meth c A E H locs ls hP hD hS hl
  obtain ⟨C, hr, hlocks, hA, hK, hN⟩ := id E
  obtain ⟨hx, hb, hml, hown, hts⟩ := id C
  unfold kX4_readTell_106 at hB
  refine lv_aload_n hx hb dX4_readTell_106 rfl (lv_at hl 0 rfl) ?_
  refine lv_iconst (v := 1) hx hb dX4_readTell_107 (by decide) ?_
  obtain ⟨s1, hc, hB⟩ := bindP_inv hB
  refine q_govF (va_runV (As := [.int 1]) (rest := []) C (ckX4_fail hc _) (cwV 1 hts gX4_readTell_X4_fail rfl rfl rfl (by decide +kernel) ⟨Nat.le_of_ble_eq_true rfl, Nat.le_of_ble_eq_true rfl⟩) (q_preV hK hP (ci := 4) (q0 := 28) rfl rfl rfl (q_preF hN hK hP hD)) rfl rfl hl.1 rfl (lv_room (Nat.le_of_ble_eq_true rfl)) dX4_readTell_108 ⟨Nat.le_of_ble_eq_true rfl, Nat.le_of_ble_eq_true rfl⟩) hD hS hA (fun w1 H locs hw hP hD hS => ?_)
  subst hw
  exact q_vret C hr hlocks hK hP hD hS (Nat.le_of_ble_eq_true rfl) (Nat.le_of_ble_eq_true rfl) dX4_readTell_111 (by cases hB; rfl)
set_option maxHeartbeats 4000000 in
set_option maxRecDepth 100000 in
theorem bkX4_readTell {l : Launch} {dC : Nat → ClassId} {dI : Nat → Nat → Nat} {cB cI cJ cZ cS : ClassId} {a : Nat → Nat} {as : List Value} {s' : KS} (s : KS) (hB : kX4_readTell s = some s') : BlkV l yX4_readTell wsX4_readTell ({ frames := 29, cells := 0, slots := 0, locals := 660 }) cX4_readTell 3 none (dC, dI) (tysA cB cI cJ cZ cS) as 0 (wK cB cI cJ cZ cS a s) [(0, .ref (a 28))] [] (fun u => u = (wK cB cI cJ cZ cS a s')) := by
  intro p e s0 m below meth c A E H locs ls hP hD hS hl
  obtain ⟨C, hr, hlocks, hA, hK, hN⟩ := id E
  obtain ⟨hx, hb, hml, hown, hts⟩ := id C
  unfold kX4_readTell at hB
  refine lv_aload_n hx hb dX4_readTell_0 rfl (lv_at hl 0 rfl) ?_
  refine q_get (v := .ref (a 30)) C inX4_readTell_X4 hK hP 28 rfl rfl 0 (by decide) rfl LX4_readTell_31 rfl dX4_readTell_1 ?_
  refine q_getN (v := .ref (a 32)) C hN inX4_readTell_X9 hK hP 30 rfl rfl 2 (by decide) rfl nwF_X4_63 rfl dX4_readTell_4 ?_
  refine lv_aload_n hx hb dX4_readTell_7 rfl (lv_at hl 0 rfl) ?_
  refine q_get (v := .int (s.v 15)) C inX4_readTell_X4 hK hP 28 rfl rfl 3 (by decide) rfl LX4_readTell_38 rfl dX4_readTell_8 ?_
  obtain ⟨g1, hB⟩ := guard_inv hB
  refine q_iald (x := ((s.f 32) (Int32.toNatClampNeg (s.v 15)))) C hK hP 32 1 rfl rfl (vpb_in g1) dX4_readTell_11 rfl ?_
  refine lv_istore_n (lv' := [(1, .int ((s.f 32) (Int32.toNatClampNeg (s.v 15)))), (0, .ref (a 28))]) hx hb dX4_readTell_12 rfl hl (by decide) rfl (fun ls hl => ?_)
  refine lv_iload_n hx hb dX4_readTell_13 rfl (lv_at hl 0 rfl) ?_
  refine lv_sipush (v := 258) hx hb dX4_readTell_14 (by decide) ?_
  refine lv_isub hx hb dX4_readTell_17 ?_
  refine lv_istore_n (lv' := [(2, .int (((s.f 32) (Int32.toNatClampNeg (s.v 15))) - 258)), (1, .int ((s.f 32) (Int32.toNatClampNeg (s.v 15)))), (0, .ref (a 28))]) hx hb dX4_readTell_18 rfl hl (by decide) rfl (fun ls hl => ?_)
  refine lv_iload_n hx hb dX4_readTell_19 rfl (lv_at hl 1 rfl) ?_
  refine lv_sipush (v := 256) hx hb dX4_readTell_20 (by decide) ?_
  refine lv_icmp_ne (tgt := 33) hx hb dX4_readTell_23 (by decide) (fun c2 => ?_) (fun c2 => ?_)
  · have hB := if_n hB c2
    refine lv_iload_n hx hb dX4_readTell_33 rfl (lv_at hl 1 rfl) ?_
    refine lv_sipush (v := 257) hx hb dX4_readTell_34 (by decide) ?_
    refine lv_icmp_ne (tgt := 47) hx hb dX4_readTell_37 (by decide) (fun c3 => ?_) (fun c3 => ?_)
    · have hB := if_n hB c3
      refine lv_iload_n hx hb dX4_readTell_47 rfl (lv_at hl 1 rfl) ?_
      refine lv_sipush (v := 262) hx hb dX4_readTell_48 (by decide) ?_
      refine lv_icmp_ne (tgt := 84) hx hb dX4_readTell_51 (by decide) (fun c4 => ?_) (fun c4 => ?_)
      · have hB := if_n hB c4
        refine lv_iload_n hx hb dX4_readTell_84 rfl (lv_at hl 0 rfl) ?_
        refine lv_if_lt (tgt := 106) hx hb dX4_readTell_85 (by decide) (fun c5 => ?_) (fun c5 => ?_)
        · have hB := if_p hB c5
          exact bkX4_readTell_106 _ hB p e s0 m below meth c A E H locs ls hP hD hS (lv_sub hl [2] rfl)
        · have hB := if_n hB c5
          refine lv_iload_n hx hb dX4_readTell_88 rfl (lv_at hl 0 rfl) ?_
          refine lv_iconst (v := 4) hx hb dX4_readTell_89 (by decide) ?_
          refine lv_icmp_ge (tgt := 106) hx hb dX4_readTell_90 (by decide) (fun c6 => ?_) (fun c6 => ?_)
          · have hB := if_p hB c6
            exact bkX4_readTell_106 _ hB p e s0 m below meth c A E H locs ls hP hD hS (lv_sub hl [2] rfl)
          · have hB := if_n hB c6
            refine lv_aload_n hx hb dX4_readTell_93 rfl (lv_at hl 2 rfl) ?_
            refine lv_iload_n hx hb dX4_readTell_94 rfl (lv_at hl 1 rfl) ?_
            obtain ⟨s7, hc, hB⟩ := bindP_inv hB
            refine q_govF (va_runV (As := [.int ((s.f 32) (Int32.toNatClampNeg (s.v 15)))]) (rest := []) C (ckX4_take hc _) (cwV 1 hts gX4_readTell_X4_take rfl rfl rfl (by decide +kernel) ⟨Nat.le_of_ble_eq_true rfl, Nat.le_of_ble_eq_true rfl⟩) (q_preV hK hP (ci := 4) (q0 := 28) rfl rfl rfl (q_preF hN hK hP hD)) rfl rfl hl.1 rfl (lv_room (Nat.le_of_ble_eq_true rfl)) dX4_readTell_95 ⟨Nat.le_of_ble_eq_true rfl, Nat.le_of_ble_eq_true rfl⟩) hD hS hA (fun w1 H locs hw hP hD hS => ?_)
            subst hw
            refine lv_aload_n hx hb dX4_readTell_98 rfl (lv_at hl 2 rfl) ?_
            refine lv_iload_n hx hb dX4_readTell_99 rfl (lv_at hl 0 rfl) ?_
            obtain ⟨s8, hc, hB⟩ := bindP_inv hB
            refine q_govF (va_runV (As := [.int (((s.f 32) (Int32.toNatClampNeg (s.v 15))) - 258)]) (rest := []) C (ckX4_readLaw hc _) (cwV 1 hts gX4_readTell_X4_readLaw rfl rfl rfl (by decide +kernel) ⟨Nat.le_of_ble_eq_true rfl, Nat.le_of_ble_eq_true rfl⟩) (q_preV hK hP (ci := 4) (q0 := 28) rfl rfl rfl (q_preF hN hK hP hD)) rfl rfl hl.1 rfl (lv_room (Nat.le_of_ble_eq_true rfl)) dX4_readTell_100 ⟨Nat.le_of_ble_eq_true rfl, Nat.le_of_ble_eq_true rfl⟩) hD hS hA (fun w1 H locs hw hP hD hS => ?_)
            subst hw
            refine lv_goto (tgt := 111) hx hb dX4_readTell_103 (by decide) ?_
            exact q_vret C hr hlocks hK hP hD hS (Nat.le_of_ble_eq_true rfl) (Nat.le_of_ble_eq_true rfl) dX4_readTell_111 (by cases hB; rfl)
      · have hB := if_p hB c4
        refine lv_aload_n hx hb dX4_readTell_54 rfl (lv_at hl 2 rfl) ?_
        refine lv_sipush (v := 262) hx hb dX4_readTell_55 (by decide) ?_
        obtain ⟨s9, hc, hB⟩ := bindP_inv hB
        refine q_govF (va_runV (As := [.int 262]) (rest := []) C (ckX4_take hc _) (cwV 1 hts gX4_readTell_X4_take rfl rfl rfl (by decide +kernel) ⟨Nat.le_of_ble_eq_true rfl, Nat.le_of_ble_eq_true rfl⟩) (q_preV hK hP (ci := 4) (q0 := 28) rfl rfl rfl (q_preF hN hK hP hD)) rfl rfl hl.1 rfl (lv_room (Nat.le_of_ble_eq_true rfl)) dX4_readTell_58 ⟨Nat.le_of_ble_eq_true rfl, Nat.le_of_ble_eq_true rfl⟩) hD hS hA (fun w1 H locs hw hP hD hS => ?_)
        subst hw
        refine lv_aload_n hx hb dX4_readTell_61 rfl (lv_at hl 2 rfl) ?_
        refine q_get (v := .ref (a 15)) C inX4_readTell_X4 hK hP 28 rfl rfl 1 (by decide) rfl LX4_readTell_12 rfl dX4_readTell_62 ?_
        refine lv_aload_n hx hb dX4_readTell_65 rfl (lv_at hl 2 rfl) ?_
        refine lv_sipush (v := 9999) hx hb dX4_readTell_66 (by decide) ?_
        obtain ⟨q_, s10, hc, hB⟩ := bindI_inv hB
        refine q_goiF (va_runV (As := [.int 9999]) (rest := [.ref (a 15)]) C (ckX4_takeInt hc _) (cwV 1 hts gX4_readTell_X4_takeInt rfl rfl rfl (by decide +kernel) ⟨Nat.le_of_ble_eq_true rfl, Nat.le_of_ble_eq_true rfl⟩) (q_preV hK hP (ci := 4) (q0 := 28) rfl rfl rfl (q_preF hN hK hP hD)) rfl rfl hl.1 rfl (lv_room (Nat.le_of_ble_eq_true rfl)) dX4_readTell_69 ⟨Nat.le_of_ble_eq_true rfl, Nat.le_of_ble_eq_true rfl⟩) hD hS hA (fun r11 w1 H locs hw hP hD hS => ?_)
        obtain ⟨hq_, hw⟩ := hw; subst hw; subst hq_
        obtain ⟨s12, hs13, hB⟩ := letS_inv hB
        refine q_putN (ty := .int) (w2 := (wK cB cI cJ cZ cS a s12)) tyX5 tyX5_ok nmX5 C hN inX4_readTell_X5 hK hP hD hS 15 rfl rfl 9 (by decide) rfl nwF_X4_94 rfl (by decide +kernel) (rfl) rfl (Nat.le_of_ble_eq_true rfl) dX4_readTell_72 (by subst hs13; rfl) (fun H locs hP hD hS => ?_)
        refine lv_aload_n hx hb dX4_readTell_75 rfl (lv_at hl 2 rfl) ?_
        refine lv_bipush (v := 59) hx hb dX4_readTell_76 (by decide) ?_
        obtain ⟨s14, hc, hB⟩ := bindP_inv hB
        refine q_govF (va_runV (As := [.int 59]) (rest := []) C (ckX4_take hc _) (cwV 1 hts gX4_readTell_X4_take rfl rfl rfl (by decide +kernel) ⟨Nat.le_of_ble_eq_true rfl, Nat.le_of_ble_eq_true rfl⟩) (q_preV hK hP (ci := 4) (q0 := 28) rfl rfl rfl (q_preF hN hK hP hD)) rfl rfl hl.1 rfl (lv_room (Nat.le_of_ble_eq_true rfl)) dX4_readTell_78 ⟨Nat.le_of_ble_eq_true rfl, Nat.le_of_ble_eq_true rfl⟩) hD hS hA (fun w1 H locs hw hP hD hS => ?_)
        subst hw
        refine lv_goto (tgt := 111) hx hb dX4_readTell_81 (by decide) ?_
        exact q_vret C hr hlocks hK hP hD hS (Nat.le_of_ble_eq_true rfl) (Nat.le_of_ble_eq_true rfl) dX4_readTell_111 (by cases hB; rfl)
    · have hB := if_p hB c3
      refine lv_aload_n hx hb dX4_readTell_40 rfl (lv_at hl 2 rfl) ?_
      obtain ⟨s15, hc, hB⟩ := bindP_inv hB
      refine q_govF (va_runV (As := []) (rest := []) C (ckX4_readParty hc _) (cwV 0 hts gX4_readTell_X4_readParty rfl rfl rfl (by decide +kernel) ⟨Nat.le_of_ble_eq_true rfl, Nat.le_of_ble_eq_true rfl⟩) (q_preV hK hP (ci := 4) (q0 := 28) rfl rfl rfl (q_preF hN hK hP hD)) rfl rfl hl.1 rfl (lv_room (Nat.le_of_ble_eq_true rfl)) dX4_readTell_41 ⟨Nat.le_of_ble_eq_true rfl, Nat.le_of_ble_eq_true rfl⟩) hD hS hA (fun w1 H locs hw hP hD hS => ?_)
      subst hw
      refine lv_goto (tgt := 111) hx hb dX4_readTell_44 (by decide) ?_
      exact q_vret C hr hlocks hK hP hD hS (Nat.le_of_ble_eq_true rfl) (Nat.le_of_ble_eq_true rfl) dX4_readTell_111 (by cases hB; rfl)
  · have hB := if_p hB c2
    refine lv_aload_n hx hb dX4_readTell_26 rfl (lv_at hl 2 rfl) ?_
    obtain ⟨s16, hc, hB⟩ := bindP_inv hB
    refine q_govF (va_runV (As := []) (rest := []) C (ckX4_readWave hc _) (cwV 0 hts gX4_readTell_X4_readWave rfl rfl rfl (by decide +kernel) ⟨Nat.le_of_ble_eq_true rfl, Nat.le_of_ble_eq_true rfl⟩) (q_preV hK hP (ci := 4) (q0 := 28) rfl rfl rfl (q_preF hN hK hP hD)) rfl rfl hl.1 rfl (lv_room (Nat.le_of_ble_eq_true rfl)) dX4_readTell_27 ⟨Nat.le_of_ble_eq_true rfl, Nat.le_of_ble_eq_true rfl⟩) hD hS hA (fun w1 H locs hw hP hD hS => ?_)
    subst hw
    refine lv_goto (tgt := 111) hx hb dX4_readTell_30 (by decide) ?_
    exact q_vret C hr hlocks hK hP hD hS (Nat.le_of_ble_eq_true rfl) (Nat.le_of_ble_eq_true rfl) dX4_readTell_111 (by cases hB; rfl)
theorem ckX4_readTell {l : Launch} {dC : Nat → ClassId} {dI : Nat → Nat → Nat} {cB cI cJ cZ cS : ClassId} {a : Nat → Nat} {s' : KS} {s : KS} (hB : kX4_readTell s = some s') : CV l yX4_readTell wsX4_readTell ({ frames := 29, cells := 0, slots := 0, locals := 660 }) (dC, dI) (tysA cB cI cJ cZ cS) (wK cB cI cJ cZ cS a s) [.ref (a 28)] (fun u => u = (wK cB cI cJ cZ cS a s')) :=
  CV_of (cc := cX4_readTell) (maxL := 3) (ret := none) (by decide) rfl (Nat.le_of_ble_eq_true rfl) (bkX4_readTell _ hB)
