set_option maxRecDepth 20000 in
theorem ggX4_readTape_X5_clear : GoodIn wsX4_readTape wsX5_clear := goodIn_r _ [11, 12, 13, 14, 15, 16, 17, 18, 19, 20, 21, 22, 23, 24, 25, 26, 27, 28, 29, 30, 31, 32, 33, 34, 35, 36, 37, 38, 39, 40, 41, 42, 43, 44, 45, 46, 262, 263, 264, 265, 266, 267, 268, 269, 270, 271, 272, 273, 274, 275, 276, 277, 278, 279, 280] (by decide +kernel) (by decide +kernel)
set_option maxRecDepth 20000 in
theorem gX4_readTape_X5_clear_n35 : GoodIn wsX4_readTape (wsX5_clear) := ggX4_readTape_X5_clear
set_option maxRecDepth 20000 in
theorem ggX4_readTape_X9_split : GoodIn wsX4_readTape wsX9_split := goodIn_r _ [50, 51, 52, 53, 54, 55, 56, 57, 58, 48, 59, 60, 61, 62, 63, 64, 65, 66, 67, 68, 69, 70, 71, 72, 73, 74, 75, 76, 77, 78, 79, 80, 81, 82, 83, 84, 85, 86, 87, 88, 89, 90, 91, 92, 93, 94, 95, 96, 97, 98, 99, 100, 101, 102, 103, 104, 105, 106, 107, 108, 109, 110, 111, 112, 113, 114, 115, 116, 117, 118, 119, 120, 121, 122, 123, 124, 125, 126, 127, 128, 129, 130, 131, 132, 133, 134, 135, 136, 137, 138, 139, 140, 141, 142, 143, 144, 145, 146, 147, 148, 149, 150, 151, 152, 153, 154, 155, 156, 157, 158, 159, 160, 161, 162, 163, 164, 165, 166, 167, 168, 169, 170, 171, 172, 173, 174, 175, 176, 177, 178, 179, 180, 181, 182, 281, 282, 283, 284, 285, 286, 287, 288, 289] (by decide +kernel) (by decide +kernel)
set_option maxRecDepth 20000 in
theorem gX4_readTape_X9_split_n50 : GoodIn wsX4_readTape (wsX9_split) := ggX4_readTape_X9_split
set_option maxRecDepth 20000 in
theorem ggX4_readTape_X4_isAt : GoodIn wsX4_readTape wsX4_isAt := goodIn_r _ [187, 3, 7, 2, 254, 255, 256, 257, 258, 259, 260, 261, 281, 282, 283, 284, 285, 286, 287] (by decide +kernel) (by decide +kernel)
set_option maxRecDepth 20000 in
theorem gX4_readTape_X4_isAt : GoodIn wsX4_readTape (wsV RX4 53 RX4 yX4_isAt wsX4_isAt) := goodIn_app (goodIn_of _ (by decide +kernel)) ggX4_readTape_X4_isAt
set_option maxRecDepth 20000 in
theorem ggX4_readTape_X5_addUp : GoodIn wsX4_readTape wsX5_addUp := goodIn_r _ [246, 14, 12, 247, 248, 249, 250, 251, 9, 252, 253, 262, 263, 264, 265, 266, 267, 268, 269, 270, 271] (by decide +kernel) (by decide +kernel)
set_option maxRecDepth 20000 in
theorem gX4_readTape_X5_addUp_n60 : GoodIn wsX4_readTape (wsX5_addUp) := ggX4_readTape_X5_addUp
theorem dX4_readTape_0 : decode cX4_readTape 0 = .ok (.aload_n 0, 1) := by decide +kernel
theorem dX4_readTape_1 : decode cX4_readTape 1 = .ok (.getfield 12, 3) := by decide +kernel
theorem dX4_readTape_4 : decode cX4_readTape 4 = .ok (.invokevirtual 35, 3) := by decide +kernel
theorem dX4_readTape_7 : decode cX4_readTape 7 = .ok (.aload_n 0, 1) := by decide +kernel
theorem dX4_readTape_8 : decode cX4_readTape 8 = .ok (.iconst 0, 1) := by decide +kernel
theorem dX4_readTape_9 : decode cX4_readTape 9 = .ok (.putfield 38, 3) := by decide +kernel
theorem dX4_readTape_12 : decode cX4_readTape 12 = .ok (.aload_n 0, 1) := by decide +kernel
theorem dX4_readTape_13 : decode cX4_readTape 13 = .ok (.iconst 0, 1) := by decide +kernel
theorem dX4_readTape_14 : decode cX4_readTape 14 = .ok (.putfield 41, 3) := by decide +kernel
theorem dX4_readTape_17 : decode cX4_readTape 17 = .ok (.aload_n 0, 1) := by decide +kernel
theorem dX4_readTape_18 : decode cX4_readTape 18 = .ok (.iconst (-1), 1) := by decide +kernel
theorem dX4_readTape_19 : decode cX4_readTape 19 = .ok (.putfield 22, 3) := by decide +kernel
theorem dX4_readTape_22 : decode cX4_readTape 22 = .ok (.aload_n 0, 1) := by decide +kernel
theorem dX4_readTape_23 : decode cX4_readTape 23 = .ok (.iconst 0, 1) := by decide +kernel
theorem dX4_readTape_24 : decode cX4_readTape 24 = .ok (.putfield 44, 3) := by decide +kernel
theorem dX4_readTape_27 : decode cX4_readTape 27 = .ok (.aload_n 0, 1) := by decide +kernel
theorem dX4_readTape_28 : decode cX4_readTape 28 = .ok (.iconst (-1), 1) := by decide +kernel
theorem dX4_readTape_29 : decode cX4_readTape 29 = .ok (.putfield 47, 3) := by decide +kernel
theorem dX4_readTape_32 : decode cX4_readTape 32 = .ok (.aload_n 0, 1) := by decide +kernel
theorem dX4_readTape_33 : decode cX4_readTape 33 = .ok (.getfield 31, 3) := by decide +kernel
theorem dX4_readTape_36 : decode cX4_readTape 36 = .ok (.invokevirtual 50, 3) := by decide +kernel
theorem dX4_readTape_39 : decode cX4_readTape 39 = .ok (.iconst 0, 1) := by decide +kernel
theorem dX4_readTape_40 : decode cX4_readTape 40 = .ok (.istore_n 1, 1) := by decide +kernel
theorem dX4_readTape_41 : decode cX4_readTape 41 = .ok (.iload_n 1, 1) := by decide +kernel
theorem dX4_readTape_42 : decode cX4_readTape 42 = .ok (.sipush 400, 3) := by decide +kernel
theorem dX4_readTape_45 : decode cX4_readTape 45 = .ok (.if_icmp .gt 30, 3) := by decide +kernel
theorem dX4_readTape_48 : decode cX4_readTape 48 = .ok (.aload_n 0, 1) := by decide +kernel
theorem dX4_readTape_49 : decode cX4_readTape 49 = .ok (.getfield 41, 3) := by decide +kernel
theorem dX4_readTape_52 : decode cX4_readTape 52 = .ok (.ifCond .ne 23, 3) := by decide +kernel
theorem dX4_readTape_55 : decode cX4_readTape 55 = .ok (.aload_n 0, 1) := by decide +kernel
theorem dX4_readTape_56 : decode cX4_readTape 56 = .ok (.sipush 302, 3) := by decide +kernel
theorem dX4_readTape_59 : decode cX4_readTape 59 = .ok (.invokevirtual 53, 3) := by decide +kernel
theorem dX4_readTape_62 : decode cX4_readTape 62 = .ok (.ifCond .ne 13, 3) := by decide +kernel
theorem dX4_readTape_75 : decode cX4_readTape 75 = .ok (.aload_n 0, 1) := by decide +kernel
theorem dX4_readTape_76 : decode cX4_readTape 76 = .ok (.getfield 41, 3) := by decide +kernel
theorem dX4_readTape_79 : decode cX4_readTape 79 = .ok (.ifCond .ne 19, 3) := by decide +kernel
theorem dX4_readTape_82 : decode cX4_readTape 82 = .ok (.aload_n 0, 1) := by decide +kernel
theorem dX4_readTape_83 : decode cX4_readTape 83 = .ok (.aload_n 0, 1) := by decide +kernel
theorem dX4_readTape_84 : decode cX4_readTape 84 = .ok (.getfield 44, 3) := by decide +kernel
theorem dX4_readTape_87 : decode cX4_readTape 87 = .ok (.putfield 41, 3) := by decide +kernel
theorem dX4_readTape_90 : decode cX4_readTape 90 = .ok (.aload_n 0, 1) := by decide +kernel
theorem dX4_readTape_91 : decode cX4_readTape 91 = .ok (.aload_n 0, 1) := by decide +kernel
theorem dX4_readTape_92 : decode cX4_readTape 92 = .ok (.getfield 47, 3) := by decide +kernel
theorem dX4_readTape_95 : decode cX4_readTape 95 = .ok (.putfield 22, 3) := by decide +kernel
theorem dX4_readTape_98 : decode cX4_readTape 98 = .ok (.aload_n 0, 1) := by decide +kernel
theorem dX4_readTape_99 : decode cX4_readTape 99 = .ok (.getfield 41, 3) := by decide +kernel
theorem dX4_readTape_102 : decode cX4_readTape 102 = .ok (.ifCond .ne 10, 3) := by decide +kernel
theorem dX4_readTape_105 : decode cX4_readTape 105 = .ok (.aload_n 0, 1) := by decide +kernel
theorem dX4_readTape_106 : decode cX4_readTape 106 = .ok (.getfield 12, 3) := by decide +kernel
theorem dX4_readTape_109 : decode cX4_readTape 109 = .ok (.invokevirtual 60, 3) := by decide +kernel
theorem dX4_readTape_112 : decode cX4_readTape 112 = .ok (.aload_n 0, 1) := by decide +kernel
theorem dX4_readTape_113 : decode cX4_readTape 113 = .ok (.getfield 41, 3) := by decide +kernel
theorem dX4_readTape_116 : decode cX4_readTape 116 = .ok (.ireturn, 1) := by decide +kernel
theorem dX4_isAt_0 : decode cX4_isAt 0 = .ok (.aload_n 0, 1) := by decide +kernel
theorem dX4_isAt_1 : decode cX4_isAt 1 = .ok (.getfield 41, 3) := by decide +kernel
theorem dX4_isAt_4 : decode cX4_isAt 4 = .ok (.ifCond .ne 23, 3) := by decide +kernel
theorem dX4_isAt_7 : decode cX4_isAt 7 = .ok (.aload_n 0, 1) := by decide +kernel
theorem dX4_isAt_8 : decode cX4_isAt 8 = .ok (.getfield 31, 3) := by decide +kernel
theorem dX4_isAt_11 : decode cX4_isAt 11 = .ok (.getfield 63, 3) := by decide +kernel
theorem dX4_isAt_14 : decode cX4_isAt 14 = .ok (.aload_n 0, 1) := by decide +kernel
theorem dX4_isAt_15 : decode cX4_isAt 15 = .ok (.getfield 38, 3) := by decide +kernel
theorem dX4_isAt_18 : decode cX4_isAt 18 = .ok (.iaload, 1) := by decide +kernel
theorem dX4_isAt_19 : decode cX4_isAt 19 = .ok (.iload_n 1, 1) := by decide +kernel
theorem dX4_isAt_20 : decode cX4_isAt 20 = .ok (.if_icmp .ne 7, 3) := by decide +kernel
theorem dX4_isAt_23 : decode cX4_isAt 23 = .ok (.iconst 1, 1) := by decide +kernel
theorem dX4_isAt_24 : decode cX4_isAt 24 = .ok (.goto 4, 3) := by decide +kernel
theorem dX4_isAt_28 : decode cX4_isAt 28 = .ok (.ireturn, 1) := by decide +kernel
theorem dX5_addUp_0 : decode cX5_addUp 0 = .ok (.aload_n 0, 1) := by decide +kernel
theorem dX5_addUp_1 : decode cX5_addUp 1 = .ok (.iconst 1, 1) := by decide +kernel
theorem dX5_addUp_2 : decode cX5_addUp 2 = .ok (.putfield 44, 3) := by decide +kernel
theorem dX5_addUp_5 : decode cX5_addUp 5 = .ok (.iconst 0, 1) := by decide +kernel
theorem dX5_addUp_6 : decode cX5_addUp 6 = .ok (.istore_n 1, 1) := by decide +kernel
theorem dX5_addUp_7 : decode cX5_addUp 7 = .ok (.iload_n 1, 1) := by decide +kernel
theorem dX5_addUp_8 : decode cX5_addUp 8 = .ok (.aload_n 0, 1) := by decide +kernel
theorem dX5_addUp_9 : decode cX5_addUp 9 = .ok (.getfield 37, 3) := by decide +kernel
theorem dX5_addUp_12 : decode cX5_addUp 12 = .ok (.if_icmp .ge 88, 3) := by decide +kernel
theorem dX5_addUp_100 : decode cX5_addUp 100 = .ok (.return_, 1) := by decide +kernel
theorem dX7_byteAt_0 : decode cX7_byteAt 0 = .ok (.iload_n 1, 1) := by decide +kernel
theorem dX7_byteAt_1 : decode cX7_byteAt 1 = .ok (.ifCond .lt 24, 3) := by decide +kernel
theorem dX7_byteAt_4 : decode cX7_byteAt 4 = .ok (.iload_n 1, 1) := by decide +kernel
theorem dX7_byteAt_5 : decode cX7_byteAt 5 = .ok (.aload_n 0, 1) := by decide +kernel
theorem dX7_byteAt_6 : decode cX7_byteAt 6 = .ok (.getfield 15, 3) := by decide +kernel
theorem dX7_byteAt_9 : decode cX7_byteAt 9 = .ok (.if_icmp .ge 16, 3) := by decide +kernel
theorem dX7_byteAt_25 : decode cX7_byteAt 25 = .ok (.iconst (-1), 1) := by decide +kernel
theorem dX7_byteAt_26 : decode cX7_byteAt 26 = .ok (.ireturn, 1) := by decide +kernel
set_option maxRecDepth 20000 in
theorem ggX9_split_X9_skipBlanks : GoodIn wsX9_split wsX9_skipBlanks := goodIn_r _ [10, 1, 11, 12, 13, 14, 15, 16, 17, 18, 19, 9, 20, 134, 135, 136, 137, 138, 139, 140, 141, 142] (by decide +kernel) (by decide +kernel)
set_option maxRecDepth 20000 in
theorem gX9_split_X9_skipBlanks : GoodIn wsX9_split (wsV RX9 51 RX9 yX9_skipBlanks wsX9_skipBlanks) := goodIn_app (goodIn_of _ (by decide +kernel)) ggX9_split_X9_skipBlanks
set_option maxRecDepth 20000 in
theorem ggX9_split_X9_splitOne : GoodIn wsX9_split wsX9_splitOne := goodIn_r _ [24, 5, 11, 1, 12, 13, 14, 15, 16, 17, 25, 26, 9, 27, 28, 29, 30, 31, 32, 33, 34, 35, 36, 37, 38, 39, 40, 41, 42, 43, 44, 45, 46, 47, 48, 49, 50, 51, 52, 53, 54, 55, 56, 57, 58, 59, 60, 61, 62, 63, 64, 65, 66, 67, 68, 69, 70, 71, 72, 73, 74, 75, 76, 77, 78, 79, 80, 81, 82, 83, 84, 85, 86, 87, 88, 89, 90, 91, 92, 93, 94, 95, 96, 97, 98, 99, 100, 101, 102, 103, 104, 105, 106, 107, 108, 109, 110, 111, 112, 113, 114, 115, 116, 117, 118, 119, 120, 121, 122, 123, 124, 125, 126, 127, 128, 129, 130, 131, 132, 133, 134, 135, 136, 137, 138, 139, 140, 141, 142] (by decide +kernel) (by decide +kernel)
set_option maxRecDepth 20000 in
theorem gX9_split_X9_splitOne : GoodIn wsX9_split (wsV RX9 54 RX9 yX9_splitOne wsX9_splitOne) := goodIn_app (goodIn_of _ (by decide +kernel)) ggX9_split_X9_splitOne
theorem dX9_split_0 : decode cX9_split 0 = .ok (.aload_n 0, 1) := by decide +kernel
theorem dX9_split_1 : decode cX9_split 1 = .ok (.iconst 0, 1) := by decide +kernel
theorem dX9_split_2 : decode cX9_split 2 = .ok (.putfield 47, 3) := by decide +kernel
theorem dX9_split_5 : decode cX9_split 5 = .ok (.sipush 303, 3) := by decide +kernel
theorem dX9_split_8 : decode cX9_split 8 = .ok (.istore_n 1, 1) := by decide +kernel
theorem dX9_split_9 : decode cX9_split 9 = .ok (.iconst 0, 1) := by decide +kernel
theorem dX9_split_10 : decode cX9_split 10 = .ok (.istore_n 2, 1) := by decide +kernel
theorem dX9_split_11 : decode cX9_split 11 = .ok (.iload_n 2, 1) := by decide +kernel
theorem dX9_split_12 : decode cX9_split 12 = .ok (.sipush 400, 3) := by decide +kernel
theorem dX9_split_15 : decode cX9_split 15 = .ok (.if_icmp .gt 63, 3) := by decide +kernel
theorem dX9_split_18 : decode cX9_split 18 = .ok (.iload_n 2, 1) := by decide +kernel
theorem dX9_split_19 : decode cX9_split 19 = .ok (.ifCond .eq 17, 3) := by decide +kernel
theorem dX9_split_22 : decode cX9_split 22 = .ok (.iload_n 1, 1) := by decide +kernel
theorem dX9_split_23 : decode cX9_split 23 = .ok (.sipush 302, 3) := by decide +kernel
theorem dX9_split_26 : decode cX9_split 26 = .ok (.if_icmp .eq 52, 3) := by decide +kernel
theorem dX9_split_36 : decode cX9_split 36 = .ok (.aload_n 0, 1) := by decide +kernel
theorem dX9_split_37 : decode cX9_split 37 = .ok (.invokevirtual 51, 3) := by decide +kernel
theorem dX9_split_40 : decode cX9_split 40 = .ok (.aload_n 0, 1) := by decide +kernel
theorem dX9_split_41 : decode cX9_split 41 = .ok (.getfield 17, 3) := by decide +kernel
theorem dX9_split_44 : decode cX9_split 44 = .ok (.iload_n 2, 1) := by decide +kernel
theorem dX9_split_45 : decode cX9_split 45 = .ok (.aload_n 0, 1) := by decide +kernel
theorem dX9_split_46 : decode cX9_split 46 = .ok (.getfield 47, 3) := by decide +kernel
theorem dX9_split_49 : decode cX9_split 49 = .ok (.iastore, 1) := by decide +kernel
theorem dX9_split_50 : decode cX9_split 50 = .ok (.aload_n 0, 1) := by decide +kernel
theorem dX9_split_51 : decode cX9_split 51 = .ok (.invokevirtual 54, 3) := by decide +kernel
theorem dX9_split_54 : decode cX9_split 54 = .ok (.istore_n 1, 1) := by decide +kernel
theorem dX9_split_55 : decode cX9_split 55 = .ok (.aload_n 0, 1) := by decide +kernel
theorem dX9_split_56 : decode cX9_split 56 = .ok (.getfield 13, 3) := by decide +kernel
theorem dX9_split_59 : decode cX9_split 59 = .ok (.iload_n 2, 1) := by decide +kernel
theorem dX9_split_60 : decode cX9_split 60 = .ok (.iload_n 1, 1) := by decide +kernel
theorem dX9_split_61 : decode cX9_split 61 = .ok (.iastore, 1) := by decide +kernel
theorem dX9_split_62 : decode cX9_split 62 = .ok (.aload_n 0, 1) := by decide +kernel
theorem dX9_split_63 : decode cX9_split 63 = .ok (.getfield 20, 3) := by decide +kernel
theorem dX9_split_66 : decode cX9_split 66 = .ok (.iload_n 2, 1) := by decide +kernel
theorem dX9_split_67 : decode cX9_split 67 = .ok (.aload_n 0, 1) := by decide +kernel
theorem dX9_split_68 : decode cX9_split 68 = .ok (.getfield 57, 3) := by decide +kernel
theorem dX9_split_71 : decode cX9_split 71 = .ok (.lastore, 1) := by decide +kernel
theorem dX9_split_72 : decode cX9_split 72 = .ok (.iinc 2 1, 3) := by decide +kernel
theorem dX9_split_75 : decode cX9_split 75 = .ok (.goto (-64), 3) := by decide +kernel
theorem dX9_split_78 : decode cX9_split 78 = .ok (.return_, 1) := by decide +kernel
theorem dX9_skipBlanks_0 : decode cX9_skipBlanks 0 = .ok (.aload_n 0, 1) := by decide +kernel
theorem dX9_skipBlanks_1 : decode cX9_skipBlanks 1 = .ok (.getfield 47, 3) := by decide +kernel
theorem dX9_skipBlanks_4 : decode cX9_skipBlanks 4 = .ok (.aload_n 0, 1) := by decide +kernel
theorem dX9_skipBlanks_5 : decode cX9_skipBlanks 5 = .ok (.getfield 23, 3) := by decide +kernel
theorem dX9_skipBlanks_8 : decode cX9_skipBlanks 8 = .ok (.getfield 61, 3) := by decide +kernel
theorem dX9_skipBlanks_11 : decode cX9_skipBlanks 11 = .ok (.if_icmp .ge 33, 3) := by decide +kernel
theorem dX9_skipBlanks_44 : decode cX9_skipBlanks 44 = .ok (.return_, 1) := by decide +kernel
set_option maxRecDepth 20000 in
theorem ggX9_splitOne_X7_byteAt : GoodIn wsX9_splitOne wsX7_byteAt := goodIn_r _ [7, 8, 9, 127, 128] (by decide +kernel) (by decide +kernel)
set_option maxRecDepth 20000 in
theorem gX9_splitOne_X7_byteAt_n65 : GoodIn wsX9_splitOne (wsX7_byteAt) := ggX9_splitOne_X7_byteAt
theorem dX9_splitOne_0 : decode cX9_splitOne 0 = .ok (.aload_n 0, 1) := by decide +kernel
theorem dX9_splitOne_1 : decode cX9_splitOne 1 = .ok (.lconst 0, 1) := by decide +kernel
theorem dX9_splitOne_2 : decode cX9_splitOne 2 = .ok (.putfield 57, 3) := by decide +kernel
theorem dX9_splitOne_5 : decode cX9_splitOne 5 = .ok (.aload_n 0, 1) := by decide +kernel
theorem dX9_splitOne_6 : decode cX9_splitOne 6 = .ok (.getfield 23, 3) := by decide +kernel
theorem dX9_splitOne_9 : decode cX9_splitOne 9 = .ok (.aload_n 0, 1) := by decide +kernel
theorem dX9_splitOne_10 : decode cX9_splitOne 10 = .ok (.getfield 47, 3) := by decide +kernel
theorem dX9_splitOne_13 : decode cX9_splitOne 13 = .ok (.invokevirtual 65, 3) := by decide +kernel
theorem dX9_splitOne_16 : decode cX9_splitOne 16 = .ok (.istore_n 1, 1) := by decide +kernel
theorem dX9_splitOne_17 : decode cX9_splitOne 17 = .ok (.iload_n 1, 1) := by decide +kernel
theorem dX9_splitOne_18 : decode cX9_splitOne 18 = .ok (.iconst (-1), 1) := by decide +kernel
theorem dX9_splitOne_19 : decode cX9_splitOne 19 = .ok (.if_icmp .ne 7, 3) := by decide +kernel
theorem dX9_splitOne_22 : decode cX9_splitOne 22 = .ok (.sipush 302, 3) := by decide +kernel
theorem dX9_splitOne_25 : decode cX9_splitOne 25 = .ok (.ireturn, 1) := by decide +kernel
set_option maxHeartbeats 4000000 in
set_option maxRecDepth 100000 in
theorem k_X7_byteAt (l : Launch) (dC : Nat → ClassId) (dI : Nat → Nat → Nat) (cB cI cJ cZ cS : ClassId) (q_tape : Nat) (u_tape_0 : Value) : CI l yX7_byteAt wsX7_byteAt ({ frames := 0, cells := 0, slots := 0, locals := 0 }) (dC, dI) (tysA cB cI cJ cZ cS) [(q_tape, .inr (7, [u_tape_0, .int 0]))] [.ref q_tape, .int 0] (fun r w => w = [(q_tape, .inr (7, [u_tape_0, .int 0]))] ∧ r = (-1)) := by
  refine open_I (cc := cX7_byteAt) (maxL := 2) (ret := (some .int)) (by decide) rfl (Nat.le_of_ble_eq_true rfl) ?_
  intro p e s m below meth c A ls E
  obtain ⟨C, hr, hlocks, hnm, hA, hP, hK, hD, hN, hl⟩ := E
  obtain ⟨hx, hb, hml, hown, hts⟩ := id C
  have hS : va_S A s.heap s.heap [] := va_S.rf
  have hl : lv_has ls 2 [(0, .ref q_tape), (1, .int 0)] := hl
  have inX7 : ∀ w ∈ u_ws RX7 TX7 2, w ∈ wsX7_byteAt := fun _ h => List.mem_cons_of_mem _ (List.mem_append_right _ h)
  have L15 : Cond.fieldLink RX7 15 "GuessFerry$Tape" "length" "I" ∈ wsX7_byteAt := by decide +kernel
  refine lv_iload_n hx hb dX7_byteAt_0 rfl (lv_at hl 1 rfl) ?_
  refine lv_if_lt (tgt := 25) hx hb dX7_byteAt_1 (by decide) (fun h => absurd h (by decide +kernel)) (fun _ => ?_)
  refine lv_iload_n hx hb dX7_byteAt_4 rfl (lv_at hl 1 rfl) ?_
  refine lv_aload_n hx hb dX7_byteAt_5 rfl (lv_at hl 0 rfl) ?_
  refine q_get (v := .int 0) C inX7 hK hP 0 rfl rfl 1 (by decide) rfl L15 rfl dX7_byteAt_6 ?_
  refine lv_icmp_ge (tgt := 25) hx hb dX7_byteAt_9 (by decide) (fun _ => ?_) (fun h => absurd (by decide +kernel) h)
  refine lv_iconst (v := (-1)) hx hb dX7_byteAt_25 (by decide) ?_
  exact q_iret C hr hlocks hK hP hD hS (Nat.le_of_ble_eq_true rfl) (Nat.le_of_ble_eq_true rfl) dX7_byteAt_26 (⟨rfl, rfl⟩)

set_option maxHeartbeats 4000000 in
set_option maxRecDepth 100000 in
theorem k_X9_skipBlanks (l : Launch) (dC : Nat → ClassId) (dI : Nat → Nat → Nat) (cB cI cJ cZ cS : ClassId) (q_tape : Nat) (q_tokens : Nat) (u_tokens_1 : Value) (u_tokens_2 : Value) (u_tokens_3 : Value) (u_tokens_4 : Value) (u_tokens_6 : Value) (u_tape_0 : Value) : CV l yX9_skipBlanks wsX9_skipBlanks ({ frames := 0, cells := 0, slots := 0, locals := 0 }) (dC, dI) (tysA cB cI cJ cZ cS) [(q_tokens, .inr (9, [.ref q_tape, u_tokens_1, u_tokens_2, u_tokens_3, u_tokens_4, .int 0, u_tokens_6])), (q_tape, .inr (7, [u_tape_0, .int 0]))] [.ref q_tokens] (fun w => w = [(q_tokens, .inr (9, [.ref q_tape, u_tokens_1, u_tokens_2, u_tokens_3, u_tokens_4, .int 0, u_tokens_6])), (q_tape, .inr (7, [u_tape_0, .int 0]))]) := by
  refine open_V (cc := cX9_skipBlanks) (maxL := 1) (ret := none) (by decide) rfl (Nat.le_of_ble_eq_true rfl) ?_
  intro p e s m below meth c A ls E
  obtain ⟨C, hr, hlocks, hnm, hA, hP, hK, hD, hN, hl⟩ := E
  obtain ⟨hx, hb, hml, hown, hts⟩ := id C
  have hS : va_S A s.heap s.heap [] := va_S.rf
  have hl : lv_has ls 1 [(0, .ref q_tokens)] := hl
  have inX7 : ∀ w ∈ u_ws RX7 TX7 2, w ∈ wsX9_skipBlanks := fun _ h => List.mem_cons_of_mem _ (List.mem_append_right _ h)
  have inX9 : ∀ w ∈ u_ws RX9 TX9 7, w ∈ wsX9_skipBlanks := fun _ h => List.mem_cons_of_mem _ (List.mem_append_left _ (List.mem_append_right _ h))
  have L23 : Cond.fieldLink RX9 23 "GuessFerry$Tokens" "tape" "LGuessFerry$Tape;" ∈ wsX9_skipBlanks := by decide +kernel
  have L47 : Cond.fieldLink RX9 47 "GuessFerry$Tokens" "end" "I" ∈ wsX9_skipBlanks := by decide +kernel
  refine lv_aload_n hx hb dX9_skipBlanks_0 rfl (lv_at hl 0 rfl) ?_
  refine q_get (v := .int 0) C inX9 hK hP 0 rfl rfl 5 (by decide) rfl L47 rfl dX9_skipBlanks_1 ?_
  refine lv_aload_n hx hb dX9_skipBlanks_4 rfl (lv_at hl 0 rfl) ?_
  refine q_get (v := .ref q_tape) C inX9 hK hP 0 rfl rfl 0 (by decide) rfl L23 rfl dX9_skipBlanks_5 ?_
  refine q_getN (v := .int 0) C hN inX7 hK hP 1 rfl rfl 1 (by decide) rfl nwF_X9_61 rfl dX9_skipBlanks_8 ?_
  refine lv_icmp_ge (tgt := 44) hx hb dX9_skipBlanks_11 (by decide) (fun _ => ?_) (fun h => absurd (by decide +kernel) h)
  exact q_vret C hr hlocks hK hP hD hS (Nat.le_of_ble_eq_true rfl) (Nat.le_of_ble_eq_true rfl) dX9_skipBlanks_44 (rfl)

set_option maxHeartbeats 4000000 in
set_option maxRecDepth 100000 in
theorem k_X9_splitOne (l : Launch) (dC : Nat → ClassId) (dI : Nat → Nat → Nat) (cB cI cJ cZ cS : ClassId) (q_tape : Nat) (q_tokens : Nat) (u_tokens_1 : Value) (u_tokens_2 : Value) (u_tokens_3 : Value) (u_tokens_4 : Value) (y_val : Int64) (u_tape_0 : Value) : CI l yX9_splitOne wsX9_splitOne ({ frames := 1, cells := 0, slots := 0, locals := 21 }) (dC, dI) (tysA cB cI cJ cZ cS) [(q_tokens, .inr (9, [.ref q_tape, u_tokens_1, u_tokens_2, u_tokens_3, u_tokens_4, .int 0, .long y_val])), (q_tape, .inr (7, [u_tape_0, .int 0]))] [.ref q_tokens] (fun r w => w = [(q_tokens, .inr (9, [.ref q_tape, u_tokens_1, u_tokens_2, u_tokens_3, u_tokens_4, .int 0, .long 0])), (q_tape, .inr (7, [u_tape_0, .int 0]))] ∧ r = 302) := by
  refine open_I (cc := cX9_splitOne) (maxL := 2) (ret := (some .int)) (by decide) rfl (Nat.le_of_ble_eq_true rfl) ?_
  intro p e s m below meth c A ls E
  obtain ⟨C, hr, hlocks, hnm, hA, hP, hK, hD, hN, hl⟩ := E
  obtain ⟨hx, hb, hml, hown, hts⟩ := id C
  have hS : va_S A s.heap s.heap [] := va_S.rf
  have hl : lv_has ls 2 [(0, .ref q_tokens)] := hl
  have inX9 : ∀ w ∈ u_ws RX9 TX9 7, w ∈ wsX9_splitOne := by decide +kernel
  have E_X7_byteAt : Cond.selects RX7 yX7_byteAt yX7_byteAt ∈ wsX9_splitOne := by decide +kernel
  have I_X7 : Cond.initialized RX7 ∈ wsX9_splitOne := by decide +kernel
  have L23 : Cond.fieldLink RX9 23 "GuessFerry$Tokens" "tape" "LGuessFerry$Tape;" ∈ wsX9_splitOne := by decide +kernel
  have L47 : Cond.fieldLink RX9 47 "GuessFerry$Tokens" "end" "I" ∈ wsX9_splitOne := by decide +kernel
  have L57 : Cond.fieldLink RX9 57 "GuessFerry$Tokens" "value" "J" ∈ wsX9_splitOne := by decide +kernel
  have N_X7_byteAt : Cond.instanceMethod yX7_byteAt ∈ wsX9_splitOne := by decide +kernel
  refine lv_aload_n hx hb dX9_splitOne_0 rfl (lv_at hl 0 rfl) ?_
  refine lv_lconst (v := 0) hx hb dX9_splitOne_1 (by decide) ?_
  refine q_put (ty := .long) (w2 := [(q_tokens, .inr (9, [.ref q_tape, u_tokens_1, u_tokens_2, u_tokens_3, u_tokens_4, .int 0, .long 0])), (q_tape, .inr (7, [u_tape_0, .int 0]))]) tyX9 tyX9_ok nmX9 C inX9 hK hP hD hS 0 rfl rfl 6 (by decide) rfl L57 rfl (by decide +kernel) (rfl) rfl (Nat.le_of_ble_eq_true rfl) dX9_splitOne_2 rfl (fun H locs hP hD hS => ?_)
  refine lv_aload_n hx hb dX9_splitOne_5 rfl (lv_at hl 0 rfl) ?_
  refine q_get (v := .ref q_tape) C inX9 hK hP 0 rfl rfl 0 (by decide) rfl L23 rfl dX9_splitOne_6 ?_
  refine lv_aload_n hx hb dX9_splitOne_9 rfl (lv_at hl 0 rfl) ?_
  refine q_get (v := .int 0) C inX9 hK hP 0 rfl rfl 5 (by decide) rfl L47 rfl dX9_splitOne_10 ?_
  refine q_goi (wr := [(q_tokens, .inr (9, [.ref q_tape, u_tokens_1, u_tokens_2, u_tokens_3, u_tokens_4, .int 0, .long 0]))]) (va_runVN (As := [.int 0]) (rest := []) C (k_X7_byteAt l dC dI cB cI cJ cZ cS (q_tape) (u_tape_0) _) ⟨va_cnB 1 hts gX9_splitOne_X7_byteAt_n65 rfl rfl rfl (hN _ nwM_X9_65 rfl) (hts _ I_X7) (by decide +kernel) ⟨Nat.le_of_ble_eq_true rfl, Nat.le_of_ble_eq_true rfl⟩, hts _ N_X7_byteAt, hts _ E_X7_byteAt⟩ (q_preV hK hP (ci := 7) (q0 := 1) rfl rfl rfl (q_pre hN hK hP hD [1] rfl (by decide))) rfl rfl hl.1 rfl (lv_room (Nat.le_of_ble_eq_true rfl)) dX9_splitOne_13 ⟨Nat.le_of_ble_eq_true rfl, Nat.le_of_ble_eq_true rfl⟩) hP hD hS hA [1] [0] rfl rfl (by decide) (by decide) (fun r w1 H locs hw hP hD hS => ?_)
  obtain ⟨rfl, rfl⟩ := hw
  have hP : va_P (dC, dI) vwCl [(q_tokens, .inr (9, [.ref q_tape, u_tokens_1, u_tokens_2, u_tokens_3, u_tokens_4, .int 0, .long 0])), (q_tape, .inr (7, [u_tape_0, .int 0]))] H := hP.sub [0, 1] rfl
  have hD : va_D A [(q_tokens, .inr (9, [.ref q_tape, u_tokens_1, u_tokens_2, u_tokens_3, u_tokens_4, .int 0, .long 0])), (q_tape, .inr (7, [u_tape_0, .int 0]))] := hD.sub [0, 1] (by decide) rfl
  refine lv_istore_n (lv' := [(1, .int (-1)), (0, .ref q_tokens)]) hx hb dX9_splitOne_16 rfl hl (by decide) rfl (fun ls hl => ?_)
  refine lv_iload_n hx hb dX9_splitOne_17 rfl (lv_at hl 0 rfl) ?_
  refine lv_iconst (v := (-1)) hx hb dX9_splitOne_18 (by decide) ?_
  refine lv_icmp_ne (tgt := 26) hx hb dX9_splitOne_19 (by decide) (fun h => absurd (by decide +kernel) h) (fun _ => ?_)
  refine lv_sipush (v := 302) hx hb dX9_splitOne_22 (by decide) ?_
  exact q_iret C hr hlocks hK hP hD hS (Nat.le_of_ble_eq_true rfl) (Nat.le_of_ble_eq_true rfl) dX9_splitOne_25 (⟨rfl, rfl⟩)

set_option maxHeartbeats 4000000 in
set_option maxRecDepth 100000 in
theorem k_X9_split (l : Launch) (dC : Nat → ClassId) (dI : Nat → Nat → Nat) (cB cI cJ cZ cS : ClassId) (q_tape : Nat) (q_tokens : Nat) (q_kinds : Nat) (q_starts : Nat) (q_values : Nat) (u_tokens_1 : Value) (y_end : Int32) (y_val : Int64) (u_tape_0 : Value) (f_starts : Nat → Int32) (f_kinds : Nat → Int32) (f_values : Nat → Int64) : CV l yX9_split wsX9_split ({ frames := 2, cells := 0, slots := 0, locals := 42 }) (dC, dI) (tysA cB cI cJ cZ cS) [(q_tokens, .inr (9, [.ref q_tape, u_tokens_1, .ref q_kinds, .ref q_starts, .ref q_values, .int y_end, .long y_val])), (q_tape, .inr (7, [u_tape_0, .int 0])), (q_starts, .inl (cI, 401, .inl f_starts)), (q_kinds, .inl (cI, 401, .inl f_kinds)), (q_values, .inl (cJ, 401, .inr (.inl f_values)))] [.ref q_tokens] (fun w => w = [(q_tokens, .inr (9, [.ref q_tape, u_tokens_1, .ref q_kinds, .ref q_starts, .ref q_values, .int 0, .long 0])), (q_tape, .inr (7, [u_tape_0, .int 0])), (q_starts, .inl (cI, 401, .inl (upd f_starts 0 0))), (q_kinds, .inl (cI, 401, .inl (upd f_kinds 0 302))), (q_values, .inl (cJ, 401, .inr (.inl (vp_updL f_values 0 0))))]) := by
  refine open_V (cc := cX9_split) (maxL := 3) (ret := none) (by decide) rfl (Nat.le_of_ble_eq_true rfl) ?_
  intro p e s m below meth c A ls E
  obtain ⟨C, hr, hlocks, hnm, hA, hP, hK, hD, hN, hl⟩ := E
  obtain ⟨hx, hb, hml, hown, hts⟩ := id C
  have hS : va_S A s.heap s.heap [] := va_S.rf
  have hl : lv_has ls 3 [(0, .ref q_tokens)] := hl
  have inX9 : ∀ w ∈ u_ws RX9 TX9 7, w ∈ wsX9_split := by decide +kernel
  have L13 : Cond.fieldLink RX9 13 "GuessFerry$Tokens" "kinds" "[I" ∈ wsX9_split := by decide +kernel
  have L17 : Cond.fieldLink RX9 17 "GuessFerry$Tokens" "starts" "[I" ∈ wsX9_split := by decide +kernel
  have L20 : Cond.fieldLink RX9 20 "GuessFerry$Tokens" "values" "[J" ∈ wsX9_split := by decide +kernel
  have L47 : Cond.fieldLink RX9 47 "GuessFerry$Tokens" "end" "I" ∈ wsX9_split := by decide +kernel
  have L57 : Cond.fieldLink RX9 57 "GuessFerry$Tokens" "value" "J" ∈ wsX9_split := by decide +kernel
  refine lv_aload_n hx hb dX9_split_0 rfl (lv_at hl 0 rfl) ?_
  refine lv_iconst (v := 0) hx hb dX9_split_1 (by decide) ?_
  refine q_put (ty := .int) (w2 := [(q_tokens, .inr (9, [.ref q_tape, u_tokens_1, .ref q_kinds, .ref q_starts, .ref q_values, .int 0, .long y_val])), (q_tape, .inr (7, [u_tape_0, .int 0])), (q_starts, .inl (cI, 401, .inl f_starts)), (q_kinds, .inl (cI, 401, .inl f_kinds)), (q_values, .inl (cJ, 401, .inr (.inl f_values)))]) tyX9 tyX9_ok nmX9 C inX9 hK hP hD hS 0 rfl rfl 5 (by decide) rfl L47 rfl (by decide +kernel) (rfl) rfl (Nat.le_of_ble_eq_true rfl) dX9_split_2 rfl (fun H locs hP hD hS => ?_)
  refine lv_sipush (v := 303) hx hb dX9_split_5 (by decide) ?_
  refine lv_istore_n (lv' := [(1, .int 303), (0, .ref q_tokens)]) hx hb dX9_split_8 rfl hl (by decide) rfl (fun ls hl => ?_)
  refine lv_iconst (v := 0) hx hb dX9_split_9 (by decide) ?_
  refine lv_istore_n (lv' := [(2, .int 0), (1, .int 303), (0, .ref q_tokens)]) hx hb dX9_split_10 rfl hl (by decide) rfl (fun ls hl => ?_)
  refine lv_iload_n hx hb dX9_split_11 rfl (lv_at hl 0 rfl) ?_
  refine lv_sipush (v := 400) hx hb dX9_split_12 (by decide) ?_
  refine lv_icmp_gt (tgt := 78) hx hb dX9_split_15 (by decide) (fun h => absurd h (by decide +kernel)) (fun _ => ?_)
  refine lv_iload_n hx hb dX9_split_18 rfl (lv_at hl 0 rfl) ?_
  refine lv_if_eq (tgt := 36) hx hb dX9_split_19 (by decide) (fun _ => ?_) (fun h => absurd (by decide +kernel) h)
  refine lv_aload_n hx hb dX9_split_36 rfl (lv_at hl 2 rfl) ?_
  refine q_gov (wr := [(q_starts, .inl (cI, 401, .inl f_starts)), (q_kinds, .inl (cI, 401, .inl f_kinds)), (q_values, .inl (cJ, 401, .inr (.inl f_values)))]) (va_runV (As := []) (rest := []) C (k_X9_skipBlanks l dC dI cB cI cJ cZ cS (q_tape) (q_tokens) (u_tokens_1) (.ref q_kinds) (.ref q_starts) (.ref q_values) (.long y_val) (u_tape_0) _) (cwV 0 hts gX9_split_X9_skipBlanks rfl rfl rfl (by decide +kernel) ⟨Nat.le_of_ble_eq_true rfl, Nat.le_of_ble_eq_true rfl⟩) (q_preV hK hP (ci := 9) (q0 := 0) rfl rfl rfl (q_pre hN hK hP hD [0, 1] rfl (by decide))) rfl rfl hl.1 rfl (lv_room (Nat.le_of_ble_eq_true rfl)) dX9_split_37 ⟨Nat.le_of_ble_eq_true rfl, Nat.le_of_ble_eq_true rfl⟩) hP hD hS hA [0, 1] [2, 3, 4] rfl rfl (by decide) (by decide) (fun w1 H locs hw hP hD hS => ?_)
  obtain rfl := hw
  have hP : va_P (dC, dI) vwCl [(q_tokens, .inr (9, [.ref q_tape, u_tokens_1, .ref q_kinds, .ref q_starts, .ref q_values, .int 0, .long y_val])), (q_tape, .inr (7, [u_tape_0, .int 0])), (q_starts, .inl (cI, 401, .inl f_starts)), (q_kinds, .inl (cI, 401, .inl f_kinds)), (q_values, .inl (cJ, 401, .inr (.inl f_values)))] H := hP.sub [3, 4, 0, 1, 2] rfl
  have hD : va_D A [(q_tokens, .inr (9, [.ref q_tape, u_tokens_1, .ref q_kinds, .ref q_starts, .ref q_values, .int 0, .long y_val])), (q_tape, .inr (7, [u_tape_0, .int 0])), (q_starts, .inl (cI, 401, .inl f_starts)), (q_kinds, .inl (cI, 401, .inl f_kinds)), (q_values, .inl (cJ, 401, .inr (.inl f_values)))] := hD.sub [3, 4, 0, 1, 2] (by decide) rfl
  refine lv_aload_n hx hb dX9_split_40 rfl (lv_at hl 2 rfl) ?_
  refine q_get (v := .ref q_starts) C inX9 hK hP 0 rfl rfl 3 (by decide) rfl L17 rfl dX9_split_41 ?_
  refine lv_iload_n hx hb dX9_split_44 rfl (lv_at hl 0 rfl) ?_
  refine lv_aload_n hx hb dX9_split_45 rfl (lv_at hl 2 rfl) ?_
  refine q_get (v := .int 0) C inX9 hK hP 0 rfl rfl 5 (by decide) rfl L47 rfl dX9_split_46 ?_
  refine q_iast (f2 := (upd f_starts 0 0)) (w2 := [(q_tokens, .inr (9, [.ref q_tape, u_tokens_1, .ref q_kinds, .ref q_starts, .ref q_values, .int 0, .long y_val])), (q_tape, .inr (7, [u_tape_0, .int 0])), (q_starts, .inl (cI, 401, .inl (upd f_starts 0 0))), (q_kinds, .inl (cI, 401, .inl f_kinds)), (q_values, .inl (cJ, 401, .inr (.inl f_values)))]) C hK hP hD hS 2 1 rfl rfl (vp_lit (by decide +kernel)) dX9_split_49 rfl rfl (fun H locs hP hD hS => ?_)
  refine lv_aload_n hx hb dX9_split_50 rfl (lv_at hl 2 rfl) ?_
  refine q_goi (wr := [(q_starts, .inl (cI, 401, .inl (upd f_starts 0 0))), (q_kinds, .inl (cI, 401, .inl f_kinds)), (q_values, .inl (cJ, 401, .inr (.inl f_values)))]) (va_runV (As := []) (rest := []) C (k_X9_splitOne l dC dI cB cI cJ cZ cS (q_tape) (q_tokens) (u_tokens_1) (.ref q_kinds) (.ref q_starts) (.ref q_values) (y_val) (u_tape_0) _) (cwV 0 hts gX9_split_X9_splitOne rfl rfl rfl (by decide +kernel) ⟨Nat.le_of_ble_eq_true rfl, Nat.le_of_ble_eq_true rfl⟩) (q_preV hK hP (ci := 9) (q0 := 0) rfl rfl rfl (q_pre hN hK hP hD [0, 1] rfl (by decide))) rfl rfl hl.1 rfl (lv_room (Nat.le_of_ble_eq_true rfl)) dX9_split_51 ⟨Nat.le_of_ble_eq_true rfl, Nat.le_of_ble_eq_true rfl⟩) hP hD hS hA [0, 1] [2, 3, 4] rfl rfl (by decide) (by decide) (fun r w1 H locs hw hP hD hS => ?_)
  obtain ⟨rfl, rfl⟩ := hw
  have hP : va_P (dC, dI) vwCl [(q_tokens, .inr (9, [.ref q_tape, u_tokens_1, .ref q_kinds, .ref q_starts, .ref q_values, .int 0, .long 0])), (q_tape, .inr (7, [u_tape_0, .int 0])), (q_starts, .inl (cI, 401, .inl (upd f_starts 0 0))), (q_kinds, .inl (cI, 401, .inl f_kinds)), (q_values, .inl (cJ, 401, .inr (.inl f_values)))] H := hP.sub [3, 4, 0, 1, 2] rfl
  have hD : va_D A [(q_tokens, .inr (9, [.ref q_tape, u_tokens_1, .ref q_kinds, .ref q_starts, .ref q_values, .int 0, .long 0])), (q_tape, .inr (7, [u_tape_0, .int 0])), (q_starts, .inl (cI, 401, .inl (upd f_starts 0 0))), (q_kinds, .inl (cI, 401, .inl f_kinds)), (q_values, .inl (cJ, 401, .inr (.inl f_values)))] := hD.sub [3, 4, 0, 1, 2] (by decide) rfl
  refine lv_istore_n (lv' := [(1, .int 302), (2, .int 0), (0, .ref q_tokens)]) hx hb dX9_split_54 rfl hl (by decide) rfl (fun ls hl => ?_)
  refine lv_aload_n hx hb dX9_split_55 rfl (lv_at hl 2 rfl) ?_
  refine q_get (v := .ref q_kinds) C inX9 hK hP 0 rfl rfl 2 (by decide) rfl L13 rfl dX9_split_56 ?_
  refine lv_iload_n hx hb dX9_split_59 rfl (lv_at hl 1 rfl) ?_
  refine lv_iload_n hx hb dX9_split_60 rfl (lv_at hl 0 rfl) ?_
  refine q_iast (f2 := (upd f_kinds 0 302)) (w2 := [(q_tokens, .inr (9, [.ref q_tape, u_tokens_1, .ref q_kinds, .ref q_starts, .ref q_values, .int 0, .long 0])), (q_tape, .inr (7, [u_tape_0, .int 0])), (q_starts, .inl (cI, 401, .inl (upd f_starts 0 0))), (q_kinds, .inl (cI, 401, .inl (upd f_kinds 0 302))), (q_values, .inl (cJ, 401, .inr (.inl f_values)))]) C hK hP hD hS 3 1 rfl rfl (vp_lit (by decide +kernel)) dX9_split_61 rfl rfl (fun H locs hP hD hS => ?_)
  refine lv_aload_n hx hb dX9_split_62 rfl (lv_at hl 2 rfl) ?_
  refine q_get (v := .ref q_values) C inX9 hK hP 0 rfl rfl 4 (by decide) rfl L20 rfl dX9_split_63 ?_
  refine lv_iload_n hx hb dX9_split_66 rfl (lv_at hl 1 rfl) ?_
  refine lv_aload_n hx hb dX9_split_67 rfl (lv_at hl 2 rfl) ?_
  refine q_get (v := .long 0) C inX9 hK hP 0 rfl rfl 6 (by decide) rfl L57 rfl dX9_split_68 ?_
  refine q_last (f2 := (vp_updL f_values 0 0)) (w2 := [(q_tokens, .inr (9, [.ref q_tape, u_tokens_1, .ref q_kinds, .ref q_starts, .ref q_values, .int 0, .long 0])), (q_tape, .inr (7, [u_tape_0, .int 0])), (q_starts, .inl (cI, 401, .inl (upd f_starts 0 0))), (q_kinds, .inl (cI, 401, .inl (upd f_kinds 0 302))), (q_values, .inl (cJ, 401, .inr (.inl (vp_updL f_values 0 0))))]) C hK hP hD hS 4 2 rfl rfl (vp_lit (by decide +kernel)) dX9_split_71 rfl rfl (fun H locs hP hD hS => ?_)
  refine lv_iinc (v := 1) (lv' := [(2, .int 1), (1, .int 302), (0, .ref q_tokens)]) hx hb dX9_split_72 hl (k := 1) rfl (by decide +kernel) (by decide) rfl (fun ls hl => ?_)
  refine lv_goto (tgt := 11) hx hb dX9_split_75 (by decide) ?_
  refine lv_iload_n hx hb dX9_split_11 rfl (lv_at hl 0 rfl) ?_
  refine lv_sipush (v := 400) hx hb dX9_split_12 (by decide) ?_
  refine lv_icmp_gt (tgt := 78) hx hb dX9_split_15 (by decide) (fun h => absurd h (by decide +kernel)) (fun _ => ?_)
  refine lv_iload_n hx hb dX9_split_18 rfl (lv_at hl 0 rfl) ?_
  refine lv_if_eq (tgt := 36) hx hb dX9_split_19 (by decide) (fun h => absurd h (by decide +kernel)) (fun _ => ?_)
  refine lv_iload_n hx hb dX9_split_22 rfl (lv_at hl 1 rfl) ?_
  refine lv_sipush (v := 302) hx hb dX9_split_23 (by decide) ?_
  refine lv_icmp_eq (tgt := 78) hx hb dX9_split_26 (by decide) (fun _ => ?_) (fun h => absurd (by decide +kernel) h)
  exact q_vret C hr hlocks hK hP hD hS (Nat.le_of_ble_eq_true rfl) (Nat.le_of_ble_eq_true rfl) dX9_split_78 (rfl)

set_option maxHeartbeats 4000000 in
set_option maxRecDepth 100000 in
theorem k_X4_isAt (l : Launch) (dC : Nat → ClassId) (dI : Nat → Nat → Nat) (cB cI cJ cZ cS : ClassId) (q_reader : Nat) (q_tokens : Nat) (q_kinds : Nat) (u_reader_1 : Value) (u_reader_2 : Value) (u_reader_5 : Value) (u_reader_6 : Value) (u_reader_7 : Value) (u_tokens_0 : Value) (u_tokens_1 : Value) (u_tokens_3 : Value) (u_tokens_4 : Value) (u_tokens_5 : Value) (u_tokens_6 : Value) (f_kinds : Nat → Int32) (h_kinds_0 : f_kinds 0 = 302) : CI l yX4_isAt wsX4_isAt ({ frames := 0, cells := 0, slots := 0, locals := 0 }) (dC, dI) (tysA cB cI cJ cZ cS) [(q_reader, .inr (4, [.ref q_tokens, u_reader_1, u_reader_2, .int 0, .int 0, u_reader_5, u_reader_6, u_reader_7])), (q_tokens, .inr (9, [u_tokens_0, u_tokens_1, .ref q_kinds, u_tokens_3, u_tokens_4, u_tokens_5, u_tokens_6])), (q_kinds, .inl (cI, 401, .inl f_kinds))] [.ref q_reader, .int 302] (fun r w => w = [(q_reader, .inr (4, [.ref q_tokens, u_reader_1, u_reader_2, .int 0, .int 0, u_reader_5, u_reader_6, u_reader_7])), (q_tokens, .inr (9, [u_tokens_0, u_tokens_1, .ref q_kinds, u_tokens_3, u_tokens_4, u_tokens_5, u_tokens_6])), (q_kinds, .inl (cI, 401, .inl f_kinds))] ∧ r = 1) := by
  refine open_I (cc := cX4_isAt) (maxL := 2) (ret := (some .boolean)) (by decide) rfl (Nat.le_of_ble_eq_true rfl) ?_
  intro p e s m below meth c A ls E
  obtain ⟨C, hr, hlocks, hnm, hA, hP, hK, hD, hN, hl⟩ := E
  obtain ⟨hx, hb, hml, hown, hts⟩ := id C
  have hS : va_S A s.heap s.heap [] := va_S.rf
  have hl : lv_has ls 2 [(0, .ref q_reader), (1, .int 302)] := hl
  have inX4 : ∀ w ∈ u_ws RX4 TX4 8, w ∈ wsX4_isAt := fun _ h => List.mem_cons_of_mem _ (List.mem_append_left _ (List.mem_append_right _ h))
  have inX9 : ∀ w ∈ u_ws RX9 TX9 7, w ∈ wsX4_isAt := fun _ h => List.mem_cons_of_mem _ (List.mem_append_right _ h)
  have L31 : Cond.fieldLink RX4 31 "GuessFerry$Reader" "tokens" "LGuessFerry$Tokens;" ∈ wsX4_isAt := by decide +kernel
  have L38 : Cond.fieldLink RX4 38 "GuessFerry$Reader" "at" "I" ∈ wsX4_isAt := by decide +kernel
  have L41 : Cond.fieldLink RX4 41 "GuessFerry$Reader" "fault" "I" ∈ wsX4_isAt := by decide +kernel
  refine lv_aload_n hx hb dX4_isAt_0 rfl (lv_at hl 0 rfl) ?_
  refine q_get (v := .int 0) C inX4 hK hP 0 rfl rfl 4 (by decide) rfl L41 rfl dX4_isAt_1 ?_
  refine lv_if_ne (tgt := 27) hx hb dX4_isAt_4 (by decide) (fun h => absurd (by decide +kernel) h) (fun _ => ?_)
  refine lv_aload_n hx hb dX4_isAt_7 rfl (lv_at hl 0 rfl) ?_
  refine q_get (v := .ref q_tokens) C inX4 hK hP 0 rfl rfl 0 (by decide) rfl L31 rfl dX4_isAt_8 ?_
  refine q_getN (v := .ref q_kinds) C hN inX9 hK hP 1 rfl rfl 2 (by decide) rfl nwF_X4_63 rfl dX4_isAt_11 ?_
  refine lv_aload_n hx hb dX4_isAt_14 rfl (lv_at hl 0 rfl) ?_
  refine q_get (v := .int 0) C inX4 hK hP 0 rfl rfl 3 (by decide) rfl L38 rfl dX4_isAt_15 ?_
  refine q_iald (x := 302) C hK hP 2 1 rfl rfl (vp_lit (by decide +kernel)) dX4_isAt_18 (h_kinds_0) ?_
  refine lv_iload_n hx hb dX4_isAt_19 rfl (lv_at hl 1 rfl) ?_
  refine lv_icmp_ne (tgt := 27) hx hb dX4_isAt_20 (by decide) (fun h => absurd (by decide +kernel) h) (fun _ => ?_)
  refine lv_iconst (v := 1) hx hb dX4_isAt_23 (by decide) ?_
  refine lv_goto (tgt := 28) hx hb dX4_isAt_24 (by decide) ?_
  exact q_zret C hr hlocks (Or.inr rfl) hK hP hD hS (Nat.le_of_ble_eq_true rfl) (Nat.le_of_ble_eq_true rfl) dX4_isAt_28 (⟨rfl, rfl⟩)

set_option maxHeartbeats 4000000 in
set_option maxRecDepth 100000 in
theorem k_X5_addUp (l : Launch) (dC : Nat → ClassId) (dI : Nat → Nat → Nat) (cB cI cJ cZ cS : ClassId) (q_draft : Nat) (u_draft_0 : Value) (u_draft_1 : Value) (u_draft_2 : Value) (u_draft_3 : Value) (u_draft_4 : Value) (u_draft_5 : Value) (u_draft_7 : Value) (u_draft_9 : Value) : CV l yX5_addUp wsX5_addUp ({ frames := 0, cells := 0, slots := 0, locals := 0 }) (dC, dI) (tysA cB cI cJ cZ cS) [(q_draft, .inr (5, [u_draft_0, u_draft_1, u_draft_2, u_draft_3, u_draft_4, u_draft_5, .int 0, u_draft_7, .int 1, u_draft_9]))] [.ref q_draft] (fun w => w = [(q_draft, .inr (5, [u_draft_0, u_draft_1, u_draft_2, u_draft_3, u_draft_4, u_draft_5, .int 0, u_draft_7, .int 1, u_draft_9]))]) := by
  refine open_V (cc := cX5_addUp) (maxL := 3) (ret := none) (by decide) rfl (Nat.le_of_ble_eq_true rfl) ?_
  intro p e s m below meth c A ls E
  obtain ⟨C, hr, hlocks, hnm, hA, hP, hK, hD, hN, hl⟩ := E
  obtain ⟨hx, hb, hml, hown, hts⟩ := id C
  have hS : va_S A s.heap s.heap [] := va_S.rf
  have hl : lv_has ls 3 [(0, .ref q_draft)] := hl
  have inX5 : ∀ w ∈ u_ws RX5 TX5 10, w ∈ wsX5_addUp := fun _ h => List.mem_cons_of_mem _ (List.mem_append_right _ h)
  have L37 : Cond.fieldLink RX5 37 "GuessFerry$Sound" "waves" "I" ∈ wsX5_addUp := by decide +kernel
  have L44 : Cond.fieldLink RX5 44 "GuessFerry$Sound" "guesses" "I" ∈ wsX5_addUp := by decide +kernel
  refine lv_aload_n hx hb dX5_addUp_0 rfl (lv_at hl 0 rfl) ?_
  refine lv_iconst (v := 1) hx hb dX5_addUp_1 (by decide) ?_
  refine q_put (ty := .int) (w2 := [(q_draft, .inr (5, [u_draft_0, u_draft_1, u_draft_2, u_draft_3, u_draft_4, u_draft_5, .int 0, u_draft_7, .int 1, u_draft_9]))]) tyX5 tyX5_ok nmX5 C inX5 hK hP hD hS 0 rfl rfl 8 (by decide) rfl L44 rfl (by decide +kernel) (rfl) rfl (Nat.le_of_ble_eq_true rfl) dX5_addUp_2 rfl (fun H locs hP hD hS => ?_)
  refine lv_iconst (v := 0) hx hb dX5_addUp_5 (by decide) ?_
  refine lv_istore_n (lv' := [(1, .int 0), (0, .ref q_draft)]) hx hb dX5_addUp_6 rfl hl (by decide) rfl (fun ls hl => ?_)
  refine lv_iload_n hx hb dX5_addUp_7 rfl (lv_at hl 0 rfl) ?_
  refine lv_aload_n hx hb dX5_addUp_8 rfl (lv_at hl 1 rfl) ?_
  refine q_get (v := .int 0) C inX5 hK hP 0 rfl rfl 6 (by decide) rfl L37 rfl dX5_addUp_9 ?_
  refine lv_icmp_ge (tgt := 100) hx hb dX5_addUp_12 (by decide) (fun _ => ?_) (fun h => absurd (by decide +kernel) h)
  exact q_vret C hr hlocks hK hP hD hS (Nat.le_of_ble_eq_true rfl) (Nat.le_of_ble_eq_true rfl) dX5_addUp_100 (rfl)

set_option maxHeartbeats 4000000 in
set_option maxRecDepth 100000 in
theorem k_X4_readTape (l : Launch) (dC : Nat → ClassId) (dI : Nat → Nat → Nat) (cB cI cJ cZ cS : ClassId) (q_tape : Nat) (q_draft : Nat) (q_draft_laws : Nat) (q_draft_steps : Nat) (q_draft_partEnds : Nat) (q_draft_lawStarts : Nat) (q_draft_partCounts : Nat) (q_reader : Nat) (q_tokens : Nat) (q_kinds : Nat) (q_starts : Nat) (q_values : Nat) (u_reader_2 : Value) (u_draft_0 : Value) (u_draft_1 : Value) (u_draft_2 : Value) (u_draft_3 : Value) (u_draft_4 : Value) (u_draft_laws_4 : Value) (u_draft_laws_5 : Value) (u_draft_laws_8 : Value) (f_draft_lawStarts : Nat → Int32) (f_draft_partCounts : Nat → Int32) (f_draft_steps : Nat → Int32) (f_draft_partEnds : Nat → Int32) (u_tokens_1 : Value) (u_tape_0 : Value) (f_starts : Nat → Int32) (f_kinds : Nat → Int32) (f_values : Nat → Int64) : CI l yX4_readTape wsX4_readTape ({ frames := 4, cells := 0, slots := 0, locals := 82 }) (dC, dI) (tysA cB cI cJ cZ cS) [(q_reader, .inr (4, [.ref q_tokens, .ref q_draft, u_reader_2, .int 0, .int 0, .int (-1), .int 0, .int 0])), (q_draft, .inr (5, [u_draft_0, u_draft_1, u_draft_2, u_draft_3, u_draft_4, .ref q_draft_laws, .int 0, .int 0, .int 1, .int 0])), (q_draft_laws, .inr (1, [.ref q_draft_steps, .ref q_draft_partEnds, .ref q_draft_lawStarts, .ref q_draft_partCounts, u_draft_laws_4, u_draft_laws_5, .int 4, .int 3, u_draft_laws_8])), (q_draft_lawStarts, .inl (cI, 4, .inl f_draft_lawStarts)), (q_draft_partCounts, .inl (cI, 4, .inl f_draft_partCounts)), (q_draft_steps, .inl (cI, 404, .inl f_draft_steps)), (q_draft_partEnds, .inl (cI, 52, .inl f_draft_partEnds)), (q_tokens, .inr (9, [.ref q_tape, u_tokens_1, .ref q_kinds, .ref q_starts, .ref q_values, .int 0, .long 0])), (q_tape, .inr (7, [u_tape_0, .int 0])), (q_starts, .inl (cI, 401, .inl f_starts)), (q_kinds, .inl (cI, 401, .inl f_kinds)), (q_values, .inl (cJ, 401, .inr (.inl f_values)))] [.ref q_reader] (fun r w => w = [(q_reader, .inr (4, [.ref q_tokens, .ref q_draft, u_reader_2, .int 0, .int 0, .int (-1), .int 0, .int (-1)])), (q_draft, .inr (5, [u_draft_0, u_draft_1, u_draft_2, u_draft_3, u_draft_4, .ref q_draft_laws, .int 0, .int 0, .int 1, .int 0])), (q_draft_laws, .inr (1, [.ref q_draft_steps, .ref q_draft_partEnds, .ref q_draft_lawStarts, .ref q_draft_partCounts, u_draft_laws_4, u_draft_laws_5, .int 4, .int 3, u_draft_laws_8])), (q_draft_lawStarts, .inl (cI, 4, .inl (upd (upd (upd (upd f_draft_lawStarts 0 0) 1 1) 2 2) 3 3))), (q_draft_partCounts, .inl (cI, 4, .inl (upd (upd (upd (upd (upd (upd (upd (upd f_draft_partCounts 0 0) 0 1) 1 0) 1 1) 2 0) 2 1) 3 0) 3 1))), (q_draft_steps, .inl (cI, 404, .inl (upd (upd (upd (upd f_draft_steps 0 (-3)) 1 1) 2 1) 3 0))), (q_draft_partEnds, .inl (cI, 52, .inl (upd (upd (upd (upd f_draft_partEnds 0 1) 13 2) 26 3) 39 4))), (q_tokens, .inr (9, [.ref q_tape, u_tokens_1, .ref q_kinds, .ref q_starts, .ref q_values, .int 0, .long 0])), (q_tape, .inr (7, [u_tape_0, .int 0])), (q_starts, .inl (cI, 401, .inl (upd f_starts 0 0))), (q_kinds, .inl (cI, 401, .inl (upd f_kinds 0 302))), (q_values, .inl (cJ, 401, .inr (.inl (vp_updL f_values 0 0))))] ∧ r = 0) := by
  refine open_I (cc := cX4_readTape) (maxL := 2) (ret := (some .int)) (by decide) rfl (Nat.le_of_ble_eq_true rfl) ?_
  intro p e s m below meth c A ls E
  obtain ⟨C, hr, hlocks, hnm, hA, hP, hK, hD, hN, hl⟩ := E
  obtain ⟨hx, hb, hml, hown, hts⟩ := id C
  have hS : va_S A s.heap s.heap [] := va_S.rf
  have hl : lv_has ls 2 [(0, .ref q_reader)] := hl
  have inX4 : ∀ w ∈ u_ws RX4 TX4 8, w ∈ wsX4_readTape := by decide +kernel
  have E_X5_addUp : Cond.selects RX5 yX5_addUp yX5_addUp ∈ wsX4_readTape := by decide +kernel
  have E_X5_clear : Cond.selects RX5 yX5_clear yX5_clear ∈ wsX4_readTape := by decide +kernel
  have E_X9_split : Cond.selects RX9 yX9_split yX9_split ∈ wsX4_readTape := by decide +kernel
  have I_X5 : Cond.initialized RX5 ∈ wsX4_readTape := by decide +kernel
  have I_X9 : Cond.initialized RX9 ∈ wsX4_readTape := by decide +kernel
  have L12 : Cond.fieldLink RX4 12 "GuessFerry$Reader" "draft" "LGuessFerry$Sound;" ∈ wsX4_readTape := by decide +kernel
  have L22 : Cond.fieldLink RX4 22 "GuessFerry$Reader" "faultPlace" "I" ∈ wsX4_readTape := by decide +kernel
  have L31 : Cond.fieldLink RX4 31 "GuessFerry$Reader" "tokens" "LGuessFerry$Tokens;" ∈ wsX4_readTape := by decide +kernel
  have L38 : Cond.fieldLink RX4 38 "GuessFerry$Reader" "at" "I" ∈ wsX4_readTape := by decide +kernel
  have L41 : Cond.fieldLink RX4 41 "GuessFerry$Reader" "fault" "I" ∈ wsX4_readTape := by decide +kernel
  have L44 : Cond.fieldLink RX4 44 "GuessFerry$Reader" "laterFault" "I" ∈ wsX4_readTape := by decide +kernel
  have L47 : Cond.fieldLink RX4 47 "GuessFerry$Reader" "laterPlace" "I" ∈ wsX4_readTape := by decide +kernel
  have N_X5_addUp : Cond.instanceMethod yX5_addUp ∈ wsX4_readTape := by decide +kernel
  have N_X5_clear : Cond.instanceMethod yX5_clear ∈ wsX4_readTape := by decide +kernel
  have N_X9_split : Cond.instanceMethod yX9_split ∈ wsX4_readTape := by decide +kernel
  refine lv_aload_n hx hb dX4_readTape_0 rfl (lv_at hl 0 rfl) ?_
  refine q_get (v := .ref q_draft) C inX4 hK hP 0 rfl rfl 1 (by decide) rfl L12 rfl dX4_readTape_1 ?_
  refine q_gov (wr := [(q_reader, .inr (4, [.ref q_tokens, .ref q_draft, u_reader_2, .int 0, .int 0, .int (-1), .int 0, .int 0])), (q_tokens, .inr (9, [.ref q_tape, u_tokens_1, .ref q_kinds, .ref q_starts, .ref q_values, .int 0, .long 0])), (q_tape, .inr (7, [u_tape_0, .int 0])), (q_starts, .inl (cI, 401, .inl f_starts)), (q_kinds, .inl (cI, 401, .inl f_kinds)), (q_values, .inl (cJ, 401, .inr (.inl f_values)))]) (va_runVN (As := []) (rest := []) C (k_X5_clear l dC dI cB cI cJ cZ cS (q_draft) (q_draft_laws) (q_draft_steps) (q_draft_partEnds) (q_draft_lawStarts) (q_draft_partCounts) (u_draft_0) (u_draft_1) (u_draft_2) (u_draft_3) (u_draft_4) (0) (0) (1) (0) (u_draft_laws_4) (u_draft_laws_5) (4) (3) (u_draft_laws_8) (f_draft_lawStarts) (f_draft_partCounts) (f_draft_steps) (f_draft_partEnds) _) ⟨va_cnB 0 hts gX4_readTape_X5_clear_n35 rfl rfl rfl (hN _ nwM_X4_35 rfl) (hts _ I_X5) (by decide +kernel) ⟨Nat.le_of_ble_eq_true rfl, Nat.le_of_ble_eq_true rfl⟩, hts _ N_X5_clear, hts _ E_X5_clear⟩ (q_preV hK hP (ci := 5) (q0 := 1) rfl rfl rfl (q_pre hN hK hP hD [1, 2, 3, 4, 5, 6] rfl (by decide))) rfl rfl hl.1 rfl (lv_room (Nat.le_of_ble_eq_true rfl)) dX4_readTape_4 ⟨Nat.le_of_ble_eq_true rfl, Nat.le_of_ble_eq_true rfl⟩) hP hD hS hA [1, 2, 3, 4, 5, 6] [0, 7, 8, 9, 10, 11] rfl rfl (by decide) (by decide) (fun w1 H locs hw hP hD hS => ?_)
  obtain rfl := hw
  have hP : va_P (dC, dI) vwCl [(q_reader, .inr (4, [.ref q_tokens, .ref q_draft, u_reader_2, .int 0, .int 0, .int (-1), .int 0, .int 0])), (q_draft, .inr (5, [u_draft_0, u_draft_1, u_draft_2, u_draft_3, u_draft_4, .ref q_draft_laws, .int 0, .int 0, .int 1, .int 0])), (q_draft_laws, .inr (1, [.ref q_draft_steps, .ref q_draft_partEnds, .ref q_draft_lawStarts, .ref q_draft_partCounts, u_draft_laws_4, u_draft_laws_5, .int 4, .int 3, u_draft_laws_8])), (q_draft_lawStarts, .inl (cI, 4, .inl (upd (upd (upd (upd f_draft_lawStarts 0 0) 1 1) 2 2) 3 3))), (q_draft_partCounts, .inl (cI, 4, .inl (upd (upd (upd (upd (upd (upd (upd (upd f_draft_partCounts 0 0) 0 1) 1 0) 1 1) 2 0) 2 1) 3 0) 3 1))), (q_draft_steps, .inl (cI, 404, .inl (upd (upd (upd (upd f_draft_steps 0 (-3)) 1 1) 2 1) 3 0))), (q_draft_partEnds, .inl (cI, 52, .inl (upd (upd (upd (upd f_draft_partEnds 0 1) 13 2) 26 3) 39 4))), (q_tokens, .inr (9, [.ref q_tape, u_tokens_1, .ref q_kinds, .ref q_starts, .ref q_values, .int 0, .long 0])), (q_tape, .inr (7, [u_tape_0, .int 0])), (q_starts, .inl (cI, 401, .inl f_starts)), (q_kinds, .inl (cI, 401, .inl f_kinds)), (q_values, .inl (cJ, 401, .inr (.inl f_values)))] H := hP.sub [0, 6, 7, 8, 9, 10, 11, 1, 2, 3, 4, 5] rfl
  have hD : va_D A [(q_reader, .inr (4, [.ref q_tokens, .ref q_draft, u_reader_2, .int 0, .int 0, .int (-1), .int 0, .int 0])), (q_draft, .inr (5, [u_draft_0, u_draft_1, u_draft_2, u_draft_3, u_draft_4, .ref q_draft_laws, .int 0, .int 0, .int 1, .int 0])), (q_draft_laws, .inr (1, [.ref q_draft_steps, .ref q_draft_partEnds, .ref q_draft_lawStarts, .ref q_draft_partCounts, u_draft_laws_4, u_draft_laws_5, .int 4, .int 3, u_draft_laws_8])), (q_draft_lawStarts, .inl (cI, 4, .inl (upd (upd (upd (upd f_draft_lawStarts 0 0) 1 1) 2 2) 3 3))), (q_draft_partCounts, .inl (cI, 4, .inl (upd (upd (upd (upd (upd (upd (upd (upd f_draft_partCounts 0 0) 0 1) 1 0) 1 1) 2 0) 2 1) 3 0) 3 1))), (q_draft_steps, .inl (cI, 404, .inl (upd (upd (upd (upd f_draft_steps 0 (-3)) 1 1) 2 1) 3 0))), (q_draft_partEnds, .inl (cI, 52, .inl (upd (upd (upd (upd f_draft_partEnds 0 1) 13 2) 26 3) 39 4))), (q_tokens, .inr (9, [.ref q_tape, u_tokens_1, .ref q_kinds, .ref q_starts, .ref q_values, .int 0, .long 0])), (q_tape, .inr (7, [u_tape_0, .int 0])), (q_starts, .inl (cI, 401, .inl f_starts)), (q_kinds, .inl (cI, 401, .inl f_kinds)), (q_values, .inl (cJ, 401, .inr (.inl f_values)))] := hD.sub [0, 6, 7, 8, 9, 10, 11, 1, 2, 3, 4, 5] (by decide) rfl
  refine lv_aload_n hx hb dX4_readTape_7 rfl (lv_at hl 0 rfl) ?_
  refine lv_iconst (v := 0) hx hb dX4_readTape_8 (by decide) ?_
  refine q_put (ty := .int) (w2 := [(q_reader, .inr (4, [.ref q_tokens, .ref q_draft, u_reader_2, .int 0, .int 0, .int (-1), .int 0, .int 0])), (q_draft, .inr (5, [u_draft_0, u_draft_1, u_draft_2, u_draft_3, u_draft_4, .ref q_draft_laws, .int 0, .int 0, .int 1, .int 0])), (q_draft_laws, .inr (1, [.ref q_draft_steps, .ref q_draft_partEnds, .ref q_draft_lawStarts, .ref q_draft_partCounts, u_draft_laws_4, u_draft_laws_5, .int 4, .int 3, u_draft_laws_8])), (q_draft_lawStarts, .inl (cI, 4, .inl (upd (upd (upd (upd f_draft_lawStarts 0 0) 1 1) 2 2) 3 3))), (q_draft_partCounts, .inl (cI, 4, .inl (upd (upd (upd (upd (upd (upd (upd (upd f_draft_partCounts 0 0) 0 1) 1 0) 1 1) 2 0) 2 1) 3 0) 3 1))), (q_draft_steps, .inl (cI, 404, .inl (upd (upd (upd (upd f_draft_steps 0 (-3)) 1 1) 2 1) 3 0))), (q_draft_partEnds, .inl (cI, 52, .inl (upd (upd (upd (upd f_draft_partEnds 0 1) 13 2) 26 3) 39 4))), (q_tokens, .inr (9, [.ref q_tape, u_tokens_1, .ref q_kinds, .ref q_starts, .ref q_values, .int 0, .long 0])), (q_tape, .inr (7, [u_tape_0, .int 0])), (q_starts, .inl (cI, 401, .inl f_starts)), (q_kinds, .inl (cI, 401, .inl f_kinds)), (q_values, .inl (cJ, 401, .inr (.inl f_values)))]) tyX4 tyX4_ok nmX4 C inX4 hK hP hD hS 0 rfl rfl 3 (by decide) rfl L38 rfl (by decide +kernel) (rfl) rfl (Nat.le_of_ble_eq_true rfl) dX4_readTape_9 rfl (fun H locs hP hD hS => ?_)
  refine lv_aload_n hx hb dX4_readTape_12 rfl (lv_at hl 0 rfl) ?_
  refine lv_iconst (v := 0) hx hb dX4_readTape_13 (by decide) ?_
  refine q_put (ty := .int) (w2 := [(q_reader, .inr (4, [.ref q_tokens, .ref q_draft, u_reader_2, .int 0, .int 0, .int (-1), .int 0, .int 0])), (q_draft, .inr (5, [u_draft_0, u_draft_1, u_draft_2, u_draft_3, u_draft_4, .ref q_draft_laws, .int 0, .int 0, .int 1, .int 0])), (q_draft_laws, .inr (1, [.ref q_draft_steps, .ref q_draft_partEnds, .ref q_draft_lawStarts, .ref q_draft_partCounts, u_draft_laws_4, u_draft_laws_5, .int 4, .int 3, u_draft_laws_8])), (q_draft_lawStarts, .inl (cI, 4, .inl (upd (upd (upd (upd f_draft_lawStarts 0 0) 1 1) 2 2) 3 3))), (q_draft_partCounts, .inl (cI, 4, .inl (upd (upd (upd (upd (upd (upd (upd (upd f_draft_partCounts 0 0) 0 1) 1 0) 1 1) 2 0) 2 1) 3 0) 3 1))), (q_draft_steps, .inl (cI, 404, .inl (upd (upd (upd (upd f_draft_steps 0 (-3)) 1 1) 2 1) 3 0))), (q_draft_partEnds, .inl (cI, 52, .inl (upd (upd (upd (upd f_draft_partEnds 0 1) 13 2) 26 3) 39 4))), (q_tokens, .inr (9, [.ref q_tape, u_tokens_1, .ref q_kinds, .ref q_starts, .ref q_values, .int 0, .long 0])), (q_tape, .inr (7, [u_tape_0, .int 0])), (q_starts, .inl (cI, 401, .inl f_starts)), (q_kinds, .inl (cI, 401, .inl f_kinds)), (q_values, .inl (cJ, 401, .inr (.inl f_values)))]) tyX4 tyX4_ok nmX4 C inX4 hK hP hD hS 0 rfl rfl 4 (by decide) rfl L41 rfl (by decide +kernel) (rfl) rfl (Nat.le_of_ble_eq_true rfl) dX4_readTape_14 rfl (fun H locs hP hD hS => ?_)
  refine lv_aload_n hx hb dX4_readTape_17 rfl (lv_at hl 0 rfl) ?_
  refine lv_iconst (v := (-1)) hx hb dX4_readTape_18 (by decide) ?_
  refine q_put (ty := .int) (w2 := [(q_reader, .inr (4, [.ref q_tokens, .ref q_draft, u_reader_2, .int 0, .int 0, .int (-1), .int 0, .int 0])), (q_draft, .inr (5, [u_draft_0, u_draft_1, u_draft_2, u_draft_3, u_draft_4, .ref q_draft_laws, .int 0, .int 0, .int 1, .int 0])), (q_draft_laws, .inr (1, [.ref q_draft_steps, .ref q_draft_partEnds, .ref q_draft_lawStarts, .ref q_draft_partCounts, u_draft_laws_4, u_draft_laws_5, .int 4, .int 3, u_draft_laws_8])), (q_draft_lawStarts, .inl (cI, 4, .inl (upd (upd (upd (upd f_draft_lawStarts 0 0) 1 1) 2 2) 3 3))), (q_draft_partCounts, .inl (cI, 4, .inl (upd (upd (upd (upd (upd (upd (upd (upd f_draft_partCounts 0 0) 0 1) 1 0) 1 1) 2 0) 2 1) 3 0) 3 1))), (q_draft_steps, .inl (cI, 404, .inl (upd (upd (upd (upd f_draft_steps 0 (-3)) 1 1) 2 1) 3 0))), (q_draft_partEnds, .inl (cI, 52, .inl (upd (upd (upd (upd f_draft_partEnds 0 1) 13 2) 26 3) 39 4))), (q_tokens, .inr (9, [.ref q_tape, u_tokens_1, .ref q_kinds, .ref q_starts, .ref q_values, .int 0, .long 0])), (q_tape, .inr (7, [u_tape_0, .int 0])), (q_starts, .inl (cI, 401, .inl f_starts)), (q_kinds, .inl (cI, 401, .inl f_kinds)), (q_values, .inl (cJ, 401, .inr (.inl f_values)))]) tyX4 tyX4_ok nmX4 C inX4 hK hP hD hS 0 rfl rfl 5 (by decide) rfl L22 rfl (by decide +kernel) (rfl) rfl (Nat.le_of_ble_eq_true rfl) dX4_readTape_19 rfl (fun H locs hP hD hS => ?_)
  refine lv_aload_n hx hb dX4_readTape_22 rfl (lv_at hl 0 rfl) ?_
  refine lv_iconst (v := 0) hx hb dX4_readTape_23 (by decide) ?_
  refine q_put (ty := .int) (w2 := [(q_reader, .inr (4, [.ref q_tokens, .ref q_draft, u_reader_2, .int 0, .int 0, .int (-1), .int 0, .int 0])), (q_draft, .inr (5, [u_draft_0, u_draft_1, u_draft_2, u_draft_3, u_draft_4, .ref q_draft_laws, .int 0, .int 0, .int 1, .int 0])), (q_draft_laws, .inr (1, [.ref q_draft_steps, .ref q_draft_partEnds, .ref q_draft_lawStarts, .ref q_draft_partCounts, u_draft_laws_4, u_draft_laws_5, .int 4, .int 3, u_draft_laws_8])), (q_draft_lawStarts, .inl (cI, 4, .inl (upd (upd (upd (upd f_draft_lawStarts 0 0) 1 1) 2 2) 3 3))), (q_draft_partCounts, .inl (cI, 4, .inl (upd (upd (upd (upd (upd (upd (upd (upd f_draft_partCounts 0 0) 0 1) 1 0) 1 1) 2 0) 2 1) 3 0) 3 1))), (q_draft_steps, .inl (cI, 404, .inl (upd (upd (upd (upd f_draft_steps 0 (-3)) 1 1) 2 1) 3 0))), (q_draft_partEnds, .inl (cI, 52, .inl (upd (upd (upd (upd f_draft_partEnds 0 1) 13 2) 26 3) 39 4))), (q_tokens, .inr (9, [.ref q_tape, u_tokens_1, .ref q_kinds, .ref q_starts, .ref q_values, .int 0, .long 0])), (q_tape, .inr (7, [u_tape_0, .int 0])), (q_starts, .inl (cI, 401, .inl f_starts)), (q_kinds, .inl (cI, 401, .inl f_kinds)), (q_values, .inl (cJ, 401, .inr (.inl f_values)))]) tyX4 tyX4_ok nmX4 C inX4 hK hP hD hS 0 rfl rfl 6 (by decide) rfl L44 rfl (by decide +kernel) (rfl) rfl (Nat.le_of_ble_eq_true rfl) dX4_readTape_24 rfl (fun H locs hP hD hS => ?_)
  refine lv_aload_n hx hb dX4_readTape_27 rfl (lv_at hl 0 rfl) ?_
  refine lv_iconst (v := (-1)) hx hb dX4_readTape_28 (by decide) ?_
  refine q_put (ty := .int) (w2 := [(q_reader, .inr (4, [.ref q_tokens, .ref q_draft, u_reader_2, .int 0, .int 0, .int (-1), .int 0, .int (-1)])), (q_draft, .inr (5, [u_draft_0, u_draft_1, u_draft_2, u_draft_3, u_draft_4, .ref q_draft_laws, .int 0, .int 0, .int 1, .int 0])), (q_draft_laws, .inr (1, [.ref q_draft_steps, .ref q_draft_partEnds, .ref q_draft_lawStarts, .ref q_draft_partCounts, u_draft_laws_4, u_draft_laws_5, .int 4, .int 3, u_draft_laws_8])), (q_draft_lawStarts, .inl (cI, 4, .inl (upd (upd (upd (upd f_draft_lawStarts 0 0) 1 1) 2 2) 3 3))), (q_draft_partCounts, .inl (cI, 4, .inl (upd (upd (upd (upd (upd (upd (upd (upd f_draft_partCounts 0 0) 0 1) 1 0) 1 1) 2 0) 2 1) 3 0) 3 1))), (q_draft_steps, .inl (cI, 404, .inl (upd (upd (upd (upd f_draft_steps 0 (-3)) 1 1) 2 1) 3 0))), (q_draft_partEnds, .inl (cI, 52, .inl (upd (upd (upd (upd f_draft_partEnds 0 1) 13 2) 26 3) 39 4))), (q_tokens, .inr (9, [.ref q_tape, u_tokens_1, .ref q_kinds, .ref q_starts, .ref q_values, .int 0, .long 0])), (q_tape, .inr (7, [u_tape_0, .int 0])), (q_starts, .inl (cI, 401, .inl f_starts)), (q_kinds, .inl (cI, 401, .inl f_kinds)), (q_values, .inl (cJ, 401, .inr (.inl f_values)))]) tyX4 tyX4_ok nmX4 C inX4 hK hP hD hS 0 rfl rfl 7 (by decide) rfl L47 rfl (by decide +kernel) (rfl) rfl (Nat.le_of_ble_eq_true rfl) dX4_readTape_29 rfl (fun H locs hP hD hS => ?_)
  refine lv_aload_n hx hb dX4_readTape_32 rfl (lv_at hl 0 rfl) ?_
  refine q_get (v := .ref q_tokens) C inX4 hK hP 0 rfl rfl 0 (by decide) rfl L31 rfl dX4_readTape_33 ?_
  refine q_gov (wr := [(q_reader, .inr (4, [.ref q_tokens, .ref q_draft, u_reader_2, .int 0, .int 0, .int (-1), .int 0, .int (-1)])), (q_draft, .inr (5, [u_draft_0, u_draft_1, u_draft_2, u_draft_3, u_draft_4, .ref q_draft_laws, .int 0, .int 0, .int 1, .int 0])), (q_draft_laws, .inr (1, [.ref q_draft_steps, .ref q_draft_partEnds, .ref q_draft_lawStarts, .ref q_draft_partCounts, u_draft_laws_4, u_draft_laws_5, .int 4, .int 3, u_draft_laws_8])), (q_draft_lawStarts, .inl (cI, 4, .inl (upd (upd (upd (upd f_draft_lawStarts 0 0) 1 1) 2 2) 3 3))), (q_draft_partCounts, .inl (cI, 4, .inl (upd (upd (upd (upd (upd (upd (upd (upd f_draft_partCounts 0 0) 0 1) 1 0) 1 1) 2 0) 2 1) 3 0) 3 1))), (q_draft_steps, .inl (cI, 404, .inl (upd (upd (upd (upd f_draft_steps 0 (-3)) 1 1) 2 1) 3 0))), (q_draft_partEnds, .inl (cI, 52, .inl (upd (upd (upd (upd f_draft_partEnds 0 1) 13 2) 26 3) 39 4)))]) (va_runVN (As := []) (rest := []) C (k_X9_split l dC dI cB cI cJ cZ cS (q_tape) (q_tokens) (q_kinds) (q_starts) (q_values) (u_tokens_1) (0) (0) (u_tape_0) (f_starts) (f_kinds) (f_values) _) ⟨va_cnB 0 hts gX4_readTape_X9_split_n50 rfl rfl rfl (hN _ nwM_X4_50 rfl) (hts _ I_X9) (by decide +kernel) ⟨Nat.le_of_ble_eq_true rfl, Nat.le_of_ble_eq_true rfl⟩, hts _ N_X9_split, hts _ E_X9_split⟩ (q_preV hK hP (ci := 9) (q0 := 7) rfl rfl rfl (q_pre hN hK hP hD [7, 8, 9, 10, 11] rfl (by decide))) rfl rfl hl.1 rfl (lv_room (Nat.le_of_ble_eq_true rfl)) dX4_readTape_36 ⟨Nat.le_of_ble_eq_true rfl, Nat.le_of_ble_eq_true rfl⟩) hP hD hS hA [7, 8, 9, 10, 11] [0, 1, 2, 3, 4, 5, 6] rfl rfl (by decide) (by decide) (fun w1 H locs hw hP hD hS => ?_)
  obtain rfl := hw
  have hP : va_P (dC, dI) vwCl [(q_reader, .inr (4, [.ref q_tokens, .ref q_draft, u_reader_2, .int 0, .int 0, .int (-1), .int 0, .int (-1)])), (q_draft, .inr (5, [u_draft_0, u_draft_1, u_draft_2, u_draft_3, u_draft_4, .ref q_draft_laws, .int 0, .int 0, .int 1, .int 0])), (q_draft_laws, .inr (1, [.ref q_draft_steps, .ref q_draft_partEnds, .ref q_draft_lawStarts, .ref q_draft_partCounts, u_draft_laws_4, u_draft_laws_5, .int 4, .int 3, u_draft_laws_8])), (q_draft_lawStarts, .inl (cI, 4, .inl (upd (upd (upd (upd f_draft_lawStarts 0 0) 1 1) 2 2) 3 3))), (q_draft_partCounts, .inl (cI, 4, .inl (upd (upd (upd (upd (upd (upd (upd (upd f_draft_partCounts 0 0) 0 1) 1 0) 1 1) 2 0) 2 1) 3 0) 3 1))), (q_draft_steps, .inl (cI, 404, .inl (upd (upd (upd (upd f_draft_steps 0 (-3)) 1 1) 2 1) 3 0))), (q_draft_partEnds, .inl (cI, 52, .inl (upd (upd (upd (upd f_draft_partEnds 0 1) 13 2) 26 3) 39 4))), (q_tokens, .inr (9, [.ref q_tape, u_tokens_1, .ref q_kinds, .ref q_starts, .ref q_values, .int 0, .long 0])), (q_tape, .inr (7, [u_tape_0, .int 0])), (q_starts, .inl (cI, 401, .inl (upd f_starts 0 0))), (q_kinds, .inl (cI, 401, .inl (upd f_kinds 0 302))), (q_values, .inl (cJ, 401, .inr (.inl (vp_updL f_values 0 0))))] H := hP.sub [0, 1, 2, 3, 4, 5, 6, 7, 8, 9, 10, 11] rfl
  have hD : va_D A [(q_reader, .inr (4, [.ref q_tokens, .ref q_draft, u_reader_2, .int 0, .int 0, .int (-1), .int 0, .int (-1)])), (q_draft, .inr (5, [u_draft_0, u_draft_1, u_draft_2, u_draft_3, u_draft_4, .ref q_draft_laws, .int 0, .int 0, .int 1, .int 0])), (q_draft_laws, .inr (1, [.ref q_draft_steps, .ref q_draft_partEnds, .ref q_draft_lawStarts, .ref q_draft_partCounts, u_draft_laws_4, u_draft_laws_5, .int 4, .int 3, u_draft_laws_8])), (q_draft_lawStarts, .inl (cI, 4, .inl (upd (upd (upd (upd f_draft_lawStarts 0 0) 1 1) 2 2) 3 3))), (q_draft_partCounts, .inl (cI, 4, .inl (upd (upd (upd (upd (upd (upd (upd (upd f_draft_partCounts 0 0) 0 1) 1 0) 1 1) 2 0) 2 1) 3 0) 3 1))), (q_draft_steps, .inl (cI, 404, .inl (upd (upd (upd (upd f_draft_steps 0 (-3)) 1 1) 2 1) 3 0))), (q_draft_partEnds, .inl (cI, 52, .inl (upd (upd (upd (upd f_draft_partEnds 0 1) 13 2) 26 3) 39 4))), (q_tokens, .inr (9, [.ref q_tape, u_tokens_1, .ref q_kinds, .ref q_starts, .ref q_values, .int 0, .long 0])), (q_tape, .inr (7, [u_tape_0, .int 0])), (q_starts, .inl (cI, 401, .inl (upd f_starts 0 0))), (q_kinds, .inl (cI, 401, .inl (upd f_kinds 0 302))), (q_values, .inl (cJ, 401, .inr (.inl (vp_updL f_values 0 0))))] := hD.sub [0, 1, 2, 3, 4, 5, 6, 7, 8, 9, 10, 11] (by decide) rfl
  refine lv_iconst (v := 0) hx hb dX4_readTape_39 (by decide) ?_
  refine lv_istore_n (lv' := [(1, .int 0), (0, .ref q_reader)]) hx hb dX4_readTape_40 rfl hl (by decide) rfl (fun ls hl => ?_)
  refine lv_iload_n hx hb dX4_readTape_41 rfl (lv_at hl 0 rfl) ?_
  refine lv_sipush (v := 400) hx hb dX4_readTape_42 (by decide) ?_
  refine lv_icmp_gt (tgt := 75) hx hb dX4_readTape_45 (by decide) (fun h => absurd h (by decide +kernel)) (fun _ => ?_)
  refine lv_aload_n hx hb dX4_readTape_48 rfl (lv_at hl 1 rfl) ?_
  refine q_get (v := .int 0) C inX4 hK hP 0 rfl rfl 4 (by decide) rfl L41 rfl dX4_readTape_49 ?_
  refine lv_if_ne (tgt := 75) hx hb dX4_readTape_52 (by decide) (fun h => absurd (by decide +kernel) h) (fun _ => ?_)
  refine lv_aload_n hx hb dX4_readTape_55 rfl (lv_at hl 1 rfl) ?_
  refine lv_sipush (v := 302) hx hb dX4_readTape_56 (by decide) ?_
  refine q_goi (wr := [(q_draft, .inr (5, [u_draft_0, u_draft_1, u_draft_2, u_draft_3, u_draft_4, .ref q_draft_laws, .int 0, .int 0, .int 1, .int 0])), (q_draft_laws, .inr (1, [.ref q_draft_steps, .ref q_draft_partEnds, .ref q_draft_lawStarts, .ref q_draft_partCounts, u_draft_laws_4, u_draft_laws_5, .int 4, .int 3, u_draft_laws_8])), (q_draft_lawStarts, .inl (cI, 4, .inl (upd (upd (upd (upd f_draft_lawStarts 0 0) 1 1) 2 2) 3 3))), (q_draft_partCounts, .inl (cI, 4, .inl (upd (upd (upd (upd (upd (upd (upd (upd f_draft_partCounts 0 0) 0 1) 1 0) 1 1) 2 0) 2 1) 3 0) 3 1))), (q_draft_steps, .inl (cI, 404, .inl (upd (upd (upd (upd f_draft_steps 0 (-3)) 1 1) 2 1) 3 0))), (q_draft_partEnds, .inl (cI, 52, .inl (upd (upd (upd (upd f_draft_partEnds 0 1) 13 2) 26 3) 39 4))), (q_tape, .inr (7, [u_tape_0, .int 0])), (q_starts, .inl (cI, 401, .inl (upd f_starts 0 0))), (q_values, .inl (cJ, 401, .inr (.inl (vp_updL f_values 0 0))))]) (va_runV (As := [.int 302]) (rest := []) C (k_X4_isAt l dC dI cB cI cJ cZ cS (q_reader) (q_tokens) (q_kinds) (.ref q_draft) (u_reader_2) (.int (-1)) (.int 0) (.int (-1)) (.ref q_tape) (u_tokens_1) (.ref q_starts) (.ref q_values) (.int 0) (.long 0) ((upd f_kinds 0 302)) rfl _) (cwV 1 hts gX4_readTape_X4_isAt rfl rfl rfl (by decide +kernel) ⟨Nat.le_of_ble_eq_true rfl, Nat.le_of_ble_eq_true rfl⟩) (q_preV hK hP (ci := 4) (q0 := 0) rfl rfl rfl (q_pre hN hK hP hD [0, 7, 10] rfl (by decide))) rfl rfl hl.1 rfl (lv_room (Nat.le_of_ble_eq_true rfl)) dX4_readTape_59 ⟨Nat.le_of_ble_eq_true rfl, Nat.le_of_ble_eq_true rfl⟩) hP hD hS hA [0, 7, 10] [1, 2, 3, 4, 5, 6, 8, 9, 11] rfl rfl (by decide) (by decide) (fun r w1 H locs hw hP hD hS => ?_)
  obtain ⟨rfl, rfl⟩ := hw
  have hP : va_P (dC, dI) vwCl [(q_reader, .inr (4, [.ref q_tokens, .ref q_draft, u_reader_2, .int 0, .int 0, .int (-1), .int 0, .int (-1)])), (q_draft, .inr (5, [u_draft_0, u_draft_1, u_draft_2, u_draft_3, u_draft_4, .ref q_draft_laws, .int 0, .int 0, .int 1, .int 0])), (q_draft_laws, .inr (1, [.ref q_draft_steps, .ref q_draft_partEnds, .ref q_draft_lawStarts, .ref q_draft_partCounts, u_draft_laws_4, u_draft_laws_5, .int 4, .int 3, u_draft_laws_8])), (q_draft_lawStarts, .inl (cI, 4, .inl (upd (upd (upd (upd f_draft_lawStarts 0 0) 1 1) 2 2) 3 3))), (q_draft_partCounts, .inl (cI, 4, .inl (upd (upd (upd (upd (upd (upd (upd (upd f_draft_partCounts 0 0) 0 1) 1 0) 1 1) 2 0) 2 1) 3 0) 3 1))), (q_draft_steps, .inl (cI, 404, .inl (upd (upd (upd (upd f_draft_steps 0 (-3)) 1 1) 2 1) 3 0))), (q_draft_partEnds, .inl (cI, 52, .inl (upd (upd (upd (upd f_draft_partEnds 0 1) 13 2) 26 3) 39 4))), (q_tokens, .inr (9, [.ref q_tape, u_tokens_1, .ref q_kinds, .ref q_starts, .ref q_values, .int 0, .long 0])), (q_tape, .inr (7, [u_tape_0, .int 0])), (q_starts, .inl (cI, 401, .inl (upd f_starts 0 0))), (q_kinds, .inl (cI, 401, .inl (upd f_kinds 0 302))), (q_values, .inl (cJ, 401, .inr (.inl (vp_updL f_values 0 0))))] H := hP.sub [9, 0, 1, 2, 3, 4, 5, 10, 6, 7, 11, 8] rfl
  have hD : va_D A [(q_reader, .inr (4, [.ref q_tokens, .ref q_draft, u_reader_2, .int 0, .int 0, .int (-1), .int 0, .int (-1)])), (q_draft, .inr (5, [u_draft_0, u_draft_1, u_draft_2, u_draft_3, u_draft_4, .ref q_draft_laws, .int 0, .int 0, .int 1, .int 0])), (q_draft_laws, .inr (1, [.ref q_draft_steps, .ref q_draft_partEnds, .ref q_draft_lawStarts, .ref q_draft_partCounts, u_draft_laws_4, u_draft_laws_5, .int 4, .int 3, u_draft_laws_8])), (q_draft_lawStarts, .inl (cI, 4, .inl (upd (upd (upd (upd f_draft_lawStarts 0 0) 1 1) 2 2) 3 3))), (q_draft_partCounts, .inl (cI, 4, .inl (upd (upd (upd (upd (upd (upd (upd (upd f_draft_partCounts 0 0) 0 1) 1 0) 1 1) 2 0) 2 1) 3 0) 3 1))), (q_draft_steps, .inl (cI, 404, .inl (upd (upd (upd (upd f_draft_steps 0 (-3)) 1 1) 2 1) 3 0))), (q_draft_partEnds, .inl (cI, 52, .inl (upd (upd (upd (upd f_draft_partEnds 0 1) 13 2) 26 3) 39 4))), (q_tokens, .inr (9, [.ref q_tape, u_tokens_1, .ref q_kinds, .ref q_starts, .ref q_values, .int 0, .long 0])), (q_tape, .inr (7, [u_tape_0, .int 0])), (q_starts, .inl (cI, 401, .inl (upd f_starts 0 0))), (q_kinds, .inl (cI, 401, .inl (upd f_kinds 0 302))), (q_values, .inl (cJ, 401, .inr (.inl (vp_updL f_values 0 0))))] := hD.sub [9, 0, 1, 2, 3, 4, 5, 10, 6, 7, 11, 8] (by decide) rfl
  refine lv_if_ne (tgt := 75) hx hb dX4_readTape_62 (by decide) (fun _ => ?_) (fun h => absurd h (by decide +kernel))
  refine lv_aload_n hx hb dX4_readTape_75 rfl (lv_at hl 1 rfl) ?_
  refine q_get (v := .int 0) C inX4 hK hP 0 rfl rfl 4 (by decide) rfl L41 rfl dX4_readTape_76 ?_
  refine lv_if_ne (tgt := 98) hx hb dX4_readTape_79 (by decide) (fun h => absurd (by decide +kernel) h) (fun _ => ?_)
  refine lv_aload_n hx hb dX4_readTape_82 rfl (lv_at hl 1 rfl) ?_
  refine lv_aload_n hx hb dX4_readTape_83 rfl (lv_at hl 1 rfl) ?_
  refine q_get (v := .int 0) C inX4 hK hP 0 rfl rfl 6 (by decide) rfl L44 rfl dX4_readTape_84 ?_
  refine q_put (ty := .int) (w2 := [(q_reader, .inr (4, [.ref q_tokens, .ref q_draft, u_reader_2, .int 0, .int 0, .int (-1), .int 0, .int (-1)])), (q_draft, .inr (5, [u_draft_0, u_draft_1, u_draft_2, u_draft_3, u_draft_4, .ref q_draft_laws, .int 0, .int 0, .int 1, .int 0])), (q_draft_laws, .inr (1, [.ref q_draft_steps, .ref q_draft_partEnds, .ref q_draft_lawStarts, .ref q_draft_partCounts, u_draft_laws_4, u_draft_laws_5, .int 4, .int 3, u_draft_laws_8])), (q_draft_lawStarts, .inl (cI, 4, .inl (upd (upd (upd (upd f_draft_lawStarts 0 0) 1 1) 2 2) 3 3))), (q_draft_partCounts, .inl (cI, 4, .inl (upd (upd (upd (upd (upd (upd (upd (upd f_draft_partCounts 0 0) 0 1) 1 0) 1 1) 2 0) 2 1) 3 0) 3 1))), (q_draft_steps, .inl (cI, 404, .inl (upd (upd (upd (upd f_draft_steps 0 (-3)) 1 1) 2 1) 3 0))), (q_draft_partEnds, .inl (cI, 52, .inl (upd (upd (upd (upd f_draft_partEnds 0 1) 13 2) 26 3) 39 4))), (q_tokens, .inr (9, [.ref q_tape, u_tokens_1, .ref q_kinds, .ref q_starts, .ref q_values, .int 0, .long 0])), (q_tape, .inr (7, [u_tape_0, .int 0])), (q_starts, .inl (cI, 401, .inl (upd f_starts 0 0))), (q_kinds, .inl (cI, 401, .inl (upd f_kinds 0 302))), (q_values, .inl (cJ, 401, .inr (.inl (vp_updL f_values 0 0))))]) tyX4 tyX4_ok nmX4 C inX4 hK hP hD hS 0 rfl rfl 4 (by decide) rfl L41 rfl (by decide +kernel) (rfl) rfl (Nat.le_of_ble_eq_true rfl) dX4_readTape_87 rfl (fun H locs hP hD hS => ?_)
  refine lv_aload_n hx hb dX4_readTape_90 rfl (lv_at hl 1 rfl) ?_
  refine lv_aload_n hx hb dX4_readTape_91 rfl (lv_at hl 1 rfl) ?_
  refine q_get (v := .int (-1)) C inX4 hK hP 0 rfl rfl 7 (by decide) rfl L47 rfl dX4_readTape_92 ?_
  refine q_put (ty := .int) (w2 := [(q_reader, .inr (4, [.ref q_tokens, .ref q_draft, u_reader_2, .int 0, .int 0, .int (-1), .int 0, .int (-1)])), (q_draft, .inr (5, [u_draft_0, u_draft_1, u_draft_2, u_draft_3, u_draft_4, .ref q_draft_laws, .int 0, .int 0, .int 1, .int 0])), (q_draft_laws, .inr (1, [.ref q_draft_steps, .ref q_draft_partEnds, .ref q_draft_lawStarts, .ref q_draft_partCounts, u_draft_laws_4, u_draft_laws_5, .int 4, .int 3, u_draft_laws_8])), (q_draft_lawStarts, .inl (cI, 4, .inl (upd (upd (upd (upd f_draft_lawStarts 0 0) 1 1) 2 2) 3 3))), (q_draft_partCounts, .inl (cI, 4, .inl (upd (upd (upd (upd (upd (upd (upd (upd f_draft_partCounts 0 0) 0 1) 1 0) 1 1) 2 0) 2 1) 3 0) 3 1))), (q_draft_steps, .inl (cI, 404, .inl (upd (upd (upd (upd f_draft_steps 0 (-3)) 1 1) 2 1) 3 0))), (q_draft_partEnds, .inl (cI, 52, .inl (upd (upd (upd (upd f_draft_partEnds 0 1) 13 2) 26 3) 39 4))), (q_tokens, .inr (9, [.ref q_tape, u_tokens_1, .ref q_kinds, .ref q_starts, .ref q_values, .int 0, .long 0])), (q_tape, .inr (7, [u_tape_0, .int 0])), (q_starts, .inl (cI, 401, .inl (upd f_starts 0 0))), (q_kinds, .inl (cI, 401, .inl (upd f_kinds 0 302))), (q_values, .inl (cJ, 401, .inr (.inl (vp_updL f_values 0 0))))]) tyX4 tyX4_ok nmX4 C inX4 hK hP hD hS 0 rfl rfl 5 (by decide) rfl L22 rfl (by decide +kernel) (rfl) rfl (Nat.le_of_ble_eq_true rfl) dX4_readTape_95 rfl (fun H locs hP hD hS => ?_)
  refine lv_aload_n hx hb dX4_readTape_98 rfl (lv_at hl 1 rfl) ?_
  refine q_get (v := .int 0) C inX4 hK hP 0 rfl rfl 4 (by decide) rfl L41 rfl dX4_readTape_99 ?_
  refine lv_if_ne (tgt := 112) hx hb dX4_readTape_102 (by decide) (fun h => absurd (by decide +kernel) h) (fun _ => ?_)
  refine lv_aload_n hx hb dX4_readTape_105 rfl (lv_at hl 1 rfl) ?_
  refine q_get (v := .ref q_draft) C inX4 hK hP 0 rfl rfl 1 (by decide) rfl L12 rfl dX4_readTape_106 ?_
  refine q_gov (wr := [(q_reader, .inr (4, [.ref q_tokens, .ref q_draft, u_reader_2, .int 0, .int 0, .int (-1), .int 0, .int (-1)])), (q_draft_laws, .inr (1, [.ref q_draft_steps, .ref q_draft_partEnds, .ref q_draft_lawStarts, .ref q_draft_partCounts, u_draft_laws_4, u_draft_laws_5, .int 4, .int 3, u_draft_laws_8])), (q_draft_lawStarts, .inl (cI, 4, .inl (upd (upd (upd (upd f_draft_lawStarts 0 0) 1 1) 2 2) 3 3))), (q_draft_partCounts, .inl (cI, 4, .inl (upd (upd (upd (upd (upd (upd (upd (upd f_draft_partCounts 0 0) 0 1) 1 0) 1 1) 2 0) 2 1) 3 0) 3 1))), (q_draft_steps, .inl (cI, 404, .inl (upd (upd (upd (upd f_draft_steps 0 (-3)) 1 1) 2 1) 3 0))), (q_draft_partEnds, .inl (cI, 52, .inl (upd (upd (upd (upd f_draft_partEnds 0 1) 13 2) 26 3) 39 4))), (q_tokens, .inr (9, [.ref q_tape, u_tokens_1, .ref q_kinds, .ref q_starts, .ref q_values, .int 0, .long 0])), (q_tape, .inr (7, [u_tape_0, .int 0])), (q_starts, .inl (cI, 401, .inl (upd f_starts 0 0))), (q_kinds, .inl (cI, 401, .inl (upd f_kinds 0 302))), (q_values, .inl (cJ, 401, .inr (.inl (vp_updL f_values 0 0))))]) (va_runVN (As := []) (rest := []) C (k_X5_addUp l dC dI cB cI cJ cZ cS (q_draft) (u_draft_0) (u_draft_1) (u_draft_2) (u_draft_3) (u_draft_4) (.ref q_draft_laws) (.int 0) (.int 0) _) ⟨va_cnB 0 hts gX4_readTape_X5_addUp_n60 rfl rfl rfl (hN _ nwM_X4_60 rfl) (hts _ I_X5) (by decide +kernel) ⟨Nat.le_of_ble_eq_true rfl, Nat.le_of_ble_eq_true rfl⟩, hts _ N_X5_addUp, hts _ E_X5_addUp⟩ (q_preV hK hP (ci := 5) (q0 := 1) rfl rfl rfl (q_pre hN hK hP hD [1] rfl (by decide))) rfl rfl hl.1 rfl (lv_room (Nat.le_of_ble_eq_true rfl)) dX4_readTape_109 ⟨Nat.le_of_ble_eq_true rfl, Nat.le_of_ble_eq_true rfl⟩) hP hD hS hA [1] [0, 2, 3, 4, 5, 6, 7, 8, 9, 10, 11] rfl rfl (by decide) (by decide) (fun w1 H locs hw hP hD hS => ?_)
  obtain rfl := hw
  have hP : va_P (dC, dI) vwCl [(q_reader, .inr (4, [.ref q_tokens, .ref q_draft, u_reader_2, .int 0, .int 0, .int (-1), .int 0, .int (-1)])), (q_draft, .inr (5, [u_draft_0, u_draft_1, u_draft_2, u_draft_3, u_draft_4, .ref q_draft_laws, .int 0, .int 0, .int 1, .int 0])), (q_draft_laws, .inr (1, [.ref q_draft_steps, .ref q_draft_partEnds, .ref q_draft_lawStarts, .ref q_draft_partCounts, u_draft_laws_4, u_draft_laws_5, .int 4, .int 3, u_draft_laws_8])), (q_draft_lawStarts, .inl (cI, 4, .inl (upd (upd (upd (upd f_draft_lawStarts 0 0) 1 1) 2 2) 3 3))), (q_draft_partCounts, .inl (cI, 4, .inl (upd (upd (upd (upd (upd (upd (upd (upd f_draft_partCounts 0 0) 0 1) 1 0) 1 1) 2 0) 2 1) 3 0) 3 1))), (q_draft_steps, .inl (cI, 404, .inl (upd (upd (upd (upd f_draft_steps 0 (-3)) 1 1) 2 1) 3 0))), (q_draft_partEnds, .inl (cI, 52, .inl (upd (upd (upd (upd f_draft_partEnds 0 1) 13 2) 26 3) 39 4))), (q_tokens, .inr (9, [.ref q_tape, u_tokens_1, .ref q_kinds, .ref q_starts, .ref q_values, .int 0, .long 0])), (q_tape, .inr (7, [u_tape_0, .int 0])), (q_starts, .inl (cI, 401, .inl (upd f_starts 0 0))), (q_kinds, .inl (cI, 401, .inl (upd f_kinds 0 302))), (q_values, .inl (cJ, 401, .inr (.inl (vp_updL f_values 0 0))))] H := hP.sub [0, 11, 1, 2, 3, 4, 5, 6, 7, 8, 9, 10] rfl
  have hD : va_D A [(q_reader, .inr (4, [.ref q_tokens, .ref q_draft, u_reader_2, .int 0, .int 0, .int (-1), .int 0, .int (-1)])), (q_draft, .inr (5, [u_draft_0, u_draft_1, u_draft_2, u_draft_3, u_draft_4, .ref q_draft_laws, .int 0, .int 0, .int 1, .int 0])), (q_draft_laws, .inr (1, [.ref q_draft_steps, .ref q_draft_partEnds, .ref q_draft_lawStarts, .ref q_draft_partCounts, u_draft_laws_4, u_draft_laws_5, .int 4, .int 3, u_draft_laws_8])), (q_draft_lawStarts, .inl (cI, 4, .inl (upd (upd (upd (upd f_draft_lawStarts 0 0) 1 1) 2 2) 3 3))), (q_draft_partCounts, .inl (cI, 4, .inl (upd (upd (upd (upd (upd (upd (upd (upd f_draft_partCounts 0 0) 0 1) 1 0) 1 1) 2 0) 2 1) 3 0) 3 1))), (q_draft_steps, .inl (cI, 404, .inl (upd (upd (upd (upd f_draft_steps 0 (-3)) 1 1) 2 1) 3 0))), (q_draft_partEnds, .inl (cI, 52, .inl (upd (upd (upd (upd f_draft_partEnds 0 1) 13 2) 26 3) 39 4))), (q_tokens, .inr (9, [.ref q_tape, u_tokens_1, .ref q_kinds, .ref q_starts, .ref q_values, .int 0, .long 0])), (q_tape, .inr (7, [u_tape_0, .int 0])), (q_starts, .inl (cI, 401, .inl (upd f_starts 0 0))), (q_kinds, .inl (cI, 401, .inl (upd f_kinds 0 302))), (q_values, .inl (cJ, 401, .inr (.inl (vp_updL f_values 0 0))))] := hD.sub [0, 11, 1, 2, 3, 4, 5, 6, 7, 8, 9, 10] (by decide) rfl
  refine lv_aload_n hx hb dX4_readTape_112 rfl (lv_at hl 1 rfl) ?_
  refine q_get (v := .int 0) C inX4 hK hP 0 rfl rfl 4 (by decide) rfl L41 rfl dX4_readTape_113 ?_
  exact q_iret C hr hlocks hK hP hD hS (Nat.le_of_ble_eq_true rfl) (Nat.le_of_ble_eq_true rfl) dX4_readTape_116 (⟨rfl, rfl⟩)
