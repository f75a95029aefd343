set_option maxRecDepth 20000 in
theorem ggX2_oddsOverWithin_X2_bestGuess : GoodIn wsX2_oddsOverWithin wsX2_bestGuess := goodIn_r _ [6, 1, 7, 8, 9, 5, 10, 11, 12, 13, 14, 15, 16, 17, 18, 19, 20, 21, 22, 23, 24, 25, 26, 27, 28, 29, 30, 31, 32, 33, 34, 35, 36, 37, 38, 39, 40, 41, 42, 43, 44, 45, 46, 47, 48, 49, 50, 51, 52, 53, 54, 55, 56, 57, 58, 59, 60, 61, 62, 63, 64, 65, 66, 67, 68, 69, 70, 71, 72, 73, 74, 75, 76, 77, 78, 79, 80, 81, 82, 83, 84, 110, 111, 112, 113, 114, 115, 116, 117, 118, 119, 120, 121, 122, 123, 124, 125, 103, 104, 105, 106, 107, 108, 109, 126, 127, 128, 129, 130, 131, 132, 133, 134, 135, 136] (by decide +kernel) (by decide +kernel)
set_option maxRecDepth 20000 in
theorem gX2_oddsOverWithin_X2_bestGuess : GoodIn wsX2_oddsOverWithin (wsV RX2 111 RX2 yX2_bestGuess wsX2_bestGuess) := goodIn_app (goodIn_of _ (by decide +kernel)) ggX2_oddsOverWithin_X2_bestGuess
set_option maxRecDepth 20000 in
theorem ggX2_oddsOverWithin_X2_oddsOf : GoodIn wsX2_oddsOverWithin wsX2_oddsOf := goodIn_r _ [88, 1, 89, 22, 90, 12, 13, 14, 5, 15, 11, 16, 17, 18, 19, 20, 21, 23, 24, 25, 26, 27, 28, 110, 111, 112, 113, 114, 115, 116, 117, 118, 119, 120, 121, 122, 123, 124, 125, 103, 104, 105, 106, 107, 108, 109, 126, 127] (by decide +kernel) (by decide +kernel)
set_option maxRecDepth 20000 in
theorem gX2_oddsOverWithin_X2_oddsOf : GoodIn wsX2_oddsOverWithin (wsV RX2 114 RX2 yX2_oddsOf wsX2_oddsOf) := goodIn_app (goodIn_of _ (by decide +kernel)) ggX2_oddsOverWithin_X2_oddsOf
set_option maxRecDepth 20000 in
theorem ggX2_oddsOverWithin_X10_thingIn : GoodIn wsX2_oddsOverWithin wsX10_thingIn := goodIn_r _ [90] (by decide +kernel) (by decide +kernel)
set_option maxRecDepth 20000 in
theorem gX2_oddsOverWithin_X10_thingIn_n65 : GoodIn wsX2_oddsOverWithin (wsX10_thingIn) := ggX2_oddsOverWithin_X10_thingIn
set_option maxRecDepth 20000 in
theorem ggX2_oddsOverWithin_X2_mayCount : GoodIn wsX2_oddsOverWithin wsX2_mayCount := goodIn_r _ [94, 11, 16, 17, 18, 19, 20, 95, 51, 52, 53, 54, 55, 56, 110, 111, 112, 113, 114, 115, 103, 104, 105, 106, 107, 108, 109, 126, 127, 116, 117, 118, 119, 120, 121, 122, 123, 124, 125] (by decide +kernel) (by decide +kernel)
set_option maxRecDepth 20000 in
theorem gX2_oddsOverWithin_X2_mayCount : GoodIn wsX2_oddsOverWithin (wsV RX2 50 RX2 yX2_mayCount wsX2_mayCount) := goodIn_app (goodIn_of _ (by decide +kernel)) ggX2_oddsOverWithin_X2_mayCount
set_option maxRecDepth 20000 in
theorem ggX2_oddsOverWithin_X2_oddsOverWithin : GoodIn wsX2_oddsOverWithin wsX2_oddsOverWithin := goodIn_r _ [0, 1, 2, 3, 4, 5, 6, 7, 8, 9, 10, 11, 12, 13, 14, 15, 16, 17, 18, 19, 20, 21, 22, 23, 24, 25, 26, 27, 28, 29, 30, 31, 32, 33, 34, 35, 36, 37, 38, 39, 40, 41, 42, 43, 44, 45, 46, 47, 48, 49, 50, 51, 52, 53, 54, 55, 56, 57, 58, 59, 60, 61, 62, 63, 64, 65, 66, 67, 68, 69, 70, 71, 72, 73, 74, 75, 76, 77, 78, 79, 80, 81, 82, 83, 84, 85, 86, 87, 88, 89, 90, 91, 92, 93, 94, 95, 96, 97, 98, 99, 100, 101, 102, 103, 104, 105, 106, 107, 108, 109, 110, 111, 112, 113, 114, 115, 116, 117, 118, 119, 120, 121, 122, 123, 124, 125, 126, 127, 128, 129, 130, 131, 132, 133, 134, 135, 136] (by decide +kernel) (by decide +kernel)
set_option maxRecDepth 20000 in
theorem gX2_oddsOverWithin_X2_oddsOverWithin : GoodIn wsX2_oddsOverWithin (wsV RX2 125 RX2 yX2_oddsOverWithin wsX2_oddsOverWithin) := goodIn_app (goodIn_of _ (by decide +kernel)) ggX2_oddsOverWithin_X2_oddsOverWithin
set_option maxRecDepth 20000 in
theorem ggX2_oddsOverWithin_X2_unfind : GoodIn wsX2_oddsOverWithin wsX2_unfind := goodIn_r _ [102, 1, 21, 22, 23, 110, 111, 112, 113, 114, 115, 116, 117, 118, 119, 120, 121, 122, 123, 124, 125, 103, 104, 105, 106, 107, 108, 109] (by decide +kernel) (by decide +kernel)
set_option maxRecDepth 20000 in
theorem gX2_oddsOverWithin_X2_unfind : GoodIn wsX2_oddsOverWithin (wsV RX2 131 RX2 yX2_unfind wsX2_unfind) := goodIn_app (goodIn_of _ (by decide +kernel)) ggX2_oddsOverWithin_X2_unfind
theorem dX2_oddsOverWithin_0 : decode cX2_oddsOverWithin 0 = .ok (.aload_n 0, 1) := by decide +kernel
theorem dX2_oddsOverWithin_1 : decode cX2_oddsOverWithin 1 = .ok (.aload_n 1, 1) := by decide +kernel
theorem dX2_oddsOverWithin_2 : decode cX2_oddsOverWithin 2 = .ok (.iload_n 2, 1) := by decide +kernel
theorem dX2_oddsOverWithin_3 : decode cX2_oddsOverWithin 3 = .ok (.invokevirtual 111, 3) := by decide +kernel
theorem dX2_oddsOverWithin_6 : decode cX2_oddsOverWithin 6 = .ok (.istore 4, 2) := by decide +kernel
theorem dX2_oddsOverWithin_8 : decode cX2_oddsOverWithin 8 = .ok (.iload 4, 2) := by decide +kernel
theorem dX2_oddsOverWithin_10 : decode cX2_oddsOverWithin 10 = .ok (.bipush (-2), 2) := by decide +kernel
theorem dX2_oddsOverWithin_12 : decode cX2_oddsOverWithin 12 = .ok (.if_icmp .eq 8, 3) := by decide +kernel
theorem dX2_oddsOverWithin_15 : decode cX2_oddsOverWithin 15 = .ok (.iload_n 3, 1) := by decide +kernel
theorem dX2_oddsOverWithin_16 : decode cX2_oddsOverWithin 16 = .ok (.iconst 1, 1) := by decide +kernel
theorem dX2_oddsOverWithin_17 : decode cX2_oddsOverWithin 17 = .ok (.if_icmp .ge 5, 3) := by decide +kernel
theorem dX2_oddsOverWithin_20 : decode cX2_oddsOverWithin 20 = .ok (.iconst 0, 1) := by decide +kernel
theorem dX2_oddsOverWithin_21 : decode cX2_oddsOverWithin 21 = .ok (.ireturn, 1) := by decide +kernel
theorem dX2_oddsOverWithin_22 : decode cX2_oddsOverWithin 22 = .ok (.aload_n 0, 1) := by decide +kernel
theorem dX2_oddsOverWithin_23 : decode cX2_oddsOverWithin 23 = .ok (.aload_n 1, 1) := by decide +kernel
theorem dX2_oddsOverWithin_24 : decode cX2_oddsOverWithin 24 = .ok (.iload 4, 2) := by decide +kernel
theorem dX2_oddsOverWithin_26 : decode cX2_oddsOverWithin 26 = .ok (.invokevirtual 114, 3) := by decide +kernel
theorem dX2_oddsOverWithin_29 : decode cX2_oddsOverWithin 29 = .ok (.istore 5, 2) := by decide +kernel
theorem dX2_oddsOverWithin_31 : decode cX2_oddsOverWithin 31 = .ok (.iload_n 3, 1) := by decide +kernel
theorem dX2_oddsOverWithin_32 : decode cX2_oddsOverWithin 32 = .ok (.iconst 1, 1) := by decide +kernel
theorem dX2_oddsOverWithin_33 : decode cX2_oddsOverWithin 33 = .ok (.if_icmp .ne 6, 3) := by decide +kernel
theorem dX2_oddsOverWithin_36 : decode cX2_oddsOverWithin 36 = .ok (.iload 5, 2) := by decide +kernel
theorem dX2_oddsOverWithin_38 : decode cX2_oddsOverWithin 38 = .ok (.ireturn, 1) := by decide +kernel
theorem dX2_oddsOverWithin_39 : decode cX2_oddsOverWithin 39 = .ok (.aload_n 1, 1) := by decide +kernel
theorem dX2_oddsOverWithin_40 : decode cX2_oddsOverWithin 40 = .ok (.getfield 117, 3) := by decide +kernel
theorem dX2_oddsOverWithin_43 : decode cX2_oddsOverWithin 43 = .ok (.iload_n 2, 1) := by decide +kernel
theorem dX2_oddsOverWithin_44 : decode cX2_oddsOverWithin 44 = .ok (.dup2, 1) := by decide +kernel
theorem dX2_oddsOverWithin_45 : decode cX2_oddsOverWithin 45 = .ok (.iaload, 1) := by decide +kernel
theorem dX2_oddsOverWithin_46 : decode cX2_oddsOverWithin 46 = .ok (.iconst 1, 1) := by decide +kernel
theorem dX2_oddsOverWithin_47 : decode cX2_oddsOverWithin 47 = .ok (.iadd, 1) := by decide +kernel
theorem dX2_oddsOverWithin_48 : decode cX2_oddsOverWithin 48 = .ok (.iastore, 1) := by decide +kernel
theorem dX2_oddsOverWithin_49 : decode cX2_oddsOverWithin 49 = .ok (.iconst 0, 1) := by decide +kernel
theorem dX2_oddsOverWithin_50 : decode cX2_oddsOverWithin 50 = .ok (.istore 6, 2) := by decide +kernel
theorem dX2_oddsOverWithin_52 : decode cX2_oddsOverWithin 52 = .ok (.iconst 0, 1) := by decide +kernel
theorem dX2_oddsOverWithin_53 : decode cX2_oddsOverWithin 53 = .ok (.istore 7, 2) := by decide +kernel
theorem dX2_oddsOverWithin_55 : decode cX2_oddsOverWithin 55 = .ok (.iload 7, 2) := by decide +kernel
theorem dX2_oddsOverWithin_57 : decode cX2_oddsOverWithin 57 = .ok (.aload_n 0, 1) := by decide +kernel
theorem dX2_oddsOverWithin_58 : decode cX2_oddsOverWithin 58 = .ok (.getfield 24, 3) := by decide +kernel
theorem dX2_oddsOverWithin_61 : decode cX2_oddsOverWithin 61 = .ok (.getfield 44, 3) := by decide +kernel
theorem dX2_oddsOverWithin_64 : decode cX2_oddsOverWithin 64 = .ok (.if_icmp .ge 100, 3) := by decide +kernel
theorem dX2_oddsOverWithin_67 : decode cX2_oddsOverWithin 67 = .ok (.iload 4, 2) := by decide +kernel
theorem dX2_oddsOverWithin_69 : decode cX2_oddsOverWithin 69 = .ok (.iload 7, 2) := by decide +kernel
theorem dX2_oddsOverWithin_71 : decode cX2_oddsOverWithin 71 = .ok (.invokestatic 65, 3) := by decide +kernel
theorem dX2_oddsOverWithin_74 : decode cX2_oddsOverWithin 74 = .ok (.istore 8, 2) := by decide +kernel
theorem dX2_oddsOverWithin_76 : decode cX2_oddsOverWithin 76 = .ok (.aload_n 0, 1) := by decide +kernel
theorem dX2_oddsOverWithin_77 : decode cX2_oddsOverWithin 77 = .ok (.aload_n 1, 1) := by decide +kernel
theorem dX2_oddsOverWithin_78 : decode cX2_oddsOverWithin 78 = .ok (.iload 7, 2) := by decide +kernel
theorem dX2_oddsOverWithin_80 : decode cX2_oddsOverWithin 80 = .ok (.invokevirtual 50, 3) := by decide +kernel
theorem dX2_oddsOverWithin_83 : decode cX2_oddsOverWithin 83 = .ok (.iconst 1, 1) := by decide +kernel
theorem dX2_oddsOverWithin_84 : decode cX2_oddsOverWithin 84 = .ok (.if_icmp .le 45, 3) := by decide +kernel
theorem dX2_oddsOverWithin_87 : decode cX2_oddsOverWithin 87 = .ok (.aload_n 1, 1) := by decide +kernel
theorem dX2_oddsOverWithin_88 : decode cX2_oddsOverWithin 88 = .ok (.getfield 122, 3) := by decide +kernel
theorem dX2_oddsOverWithin_91 : decode cX2_oddsOverWithin 91 = .ok (.iload 7, 2) := by decide +kernel
theorem dX2_oddsOverWithin_93 : decode cX2_oddsOverWithin 93 = .ok (.dup2, 1) := by decide +kernel
theorem dX2_oddsOverWithin_94 : decode cX2_oddsOverWithin 94 = .ok (.iaload, 1) := by decide +kernel
theorem dX2_oddsOverWithin_95 : decode cX2_oddsOverWithin 95 = .ok (.iconst 1, 1) := by decide +kernel
theorem dX2_oddsOverWithin_96 : decode cX2_oddsOverWithin 96 = .ok (.iload 8, 2) := by decide +kernel
theorem dX2_oddsOverWithin_98 : decode cX2_oddsOverWithin 98 = .ok (.ishl, 1) := by decide +kernel
theorem dX2_oddsOverWithin_99 : decode cX2_oddsOverWithin 99 = .ok (.ixor, 1) := by decide +kernel
theorem dX2_oddsOverWithin_100 : decode cX2_oddsOverWithin 100 = .ok (.iastore, 1) := by decide +kernel
theorem dX2_oddsOverWithin_101 : decode cX2_oddsOverWithin 101 = .ok (.iload 5, 2) := by decide +kernel
theorem dX2_oddsOverWithin_103 : decode cX2_oddsOverWithin 103 = .ok (.aload_n 0, 1) := by decide +kernel
theorem dX2_oddsOverWithin_104 : decode cX2_oddsOverWithin 104 = .ok (.aload_n 1, 1) := by decide +kernel
theorem dX2_oddsOverWithin_105 : decode cX2_oddsOverWithin 105 = .ok (.iload_n 2, 1) := by decide +kernel
theorem dX2_oddsOverWithin_106 : decode cX2_oddsOverWithin 106 = .ok (.iload_n 3, 1) := by decide +kernel
theorem dX2_oddsOverWithin_107 : decode cX2_oddsOverWithin 107 = .ok (.iconst 1, 1) := by decide +kernel
theorem dX2_oddsOverWithin_108 : decode cX2_oddsOverWithin 108 = .ok (.isub, 1) := by decide +kernel
theorem dX2_oddsOverWithin_109 : decode cX2_oddsOverWithin 109 = .ok (.invokevirtual 125, 3) := by decide +kernel
theorem dX2_oddsOverWithin_112 : decode cX2_oddsOverWithin 112 = .ok (.iadd, 1) := by decide +kernel
theorem dX2_oddsOverWithin_113 : decode cX2_oddsOverWithin 113 = .ok (.istore 5, 2) := by decide +kernel
theorem dX2_oddsOverWithin_115 : decode cX2_oddsOverWithin 115 = .ok (.aload_n 1, 1) := by decide +kernel
theorem dX2_oddsOverWithin_116 : decode cX2_oddsOverWithin 116 = .ok (.getfield 122, 3) := by decide +kernel
theorem dX2_oddsOverWithin_119 : decode cX2_oddsOverWithin 119 = .ok (.iload 7, 2) := by decide +kernel
theorem dX2_oddsOverWithin_121 : decode cX2_oddsOverWithin 121 = .ok (.dup2, 1) := by decide +kernel
theorem dX2_oddsOverWithin_122 : decode cX2_oddsOverWithin 122 = .ok (.iaload, 1) := by decide +kernel
theorem dX2_oddsOverWithin_123 : decode cX2_oddsOverWithin 123 = .ok (.iconst 1, 1) := by decide +kernel
theorem dX2_oddsOverWithin_124 : decode cX2_oddsOverWithin 124 = .ok (.iload 8, 2) := by decide +kernel
theorem dX2_oddsOverWithin_126 : decode cX2_oddsOverWithin 126 = .ok (.ishl, 1) := by decide +kernel
theorem dX2_oddsOverWithin_127 : decode cX2_oddsOverWithin 127 = .ok (.ixor, 1) := by decide +kernel
theorem dX2_oddsOverWithin_128 : decode cX2_oddsOverWithin 128 = .ok (.iastore, 1) := by decide +kernel
theorem dX2_oddsOverWithin_129 : decode cX2_oddsOverWithin 129 = .ok (.aload_n 1, 1) := by decide +kernel
theorem dX2_oddsOverWithin_130 : decode cX2_oddsOverWithin 130 = .ok (.getfield 128, 3) := by decide +kernel
theorem dX2_oddsOverWithin_133 : decode cX2_oddsOverWithin 133 = .ok (.iload 7, 2) := by decide +kernel
theorem dX2_oddsOverWithin_135 : decode cX2_oddsOverWithin 135 = .ok (.iaload, 1) := by decide +kernel
theorem dX2_oddsOverWithin_136 : decode cX2_oddsOverWithin 136 = .ok (.iconst (-1), 1) := by decide +kernel
theorem dX2_oddsOverWithin_137 : decode cX2_oddsOverWithin 137 = .ok (.if_icmp .ne 21, 3) := by decide +kernel
theorem dX2_oddsOverWithin_140 : decode cX2_oddsOverWithin 140 = .ok (.aload_n 1, 1) := by decide +kernel
theorem dX2_oddsOverWithin_141 : decode cX2_oddsOverWithin 141 = .ok (.getfield 128, 3) := by decide +kernel
theorem dX2_oddsOverWithin_144 : decode cX2_oddsOverWithin 144 = .ok (.iload 7, 2) := by decide +kernel
theorem dX2_oddsOverWithin_146 : decode cX2_oddsOverWithin 146 = .ok (.iload 8, 2) := by decide +kernel
theorem dX2_oddsOverWithin_148 : decode cX2_oddsOverWithin 148 = .ok (.iastore, 1) := by decide +kernel
theorem dX2_oddsOverWithin_149 : decode cX2_oddsOverWithin 149 = .ok (.iload 6, 2) := by decide +kernel
theorem dX2_oddsOverWithin_151 : decode cX2_oddsOverWithin 151 = .ok (.iconst 1, 1) := by decide +kernel
theorem dX2_oddsOverWithin_152 : decode cX2_oddsOverWithin 152 = .ok (.iload 7, 2) := by decide +kernel
theorem dX2_oddsOverWithin_154 : decode cX2_oddsOverWithin 154 = .ok (.ishl, 1) := by decide +kernel
theorem dX2_oddsOverWithin_155 : decode cX2_oddsOverWithin 155 = .ok (.ior, 1) := by decide +kernel
theorem dX2_oddsOverWithin_156 : decode cX2_oddsOverWithin 156 = .ok (.istore 6, 2) := by decide +kernel
theorem dX2_oddsOverWithin_158 : decode cX2_oddsOverWithin 158 = .ok (.iinc 7 1, 3) := by decide +kernel
theorem dX2_oddsOverWithin_161 : decode cX2_oddsOverWithin 161 = .ok (.goto (-106), 3) := by decide +kernel
theorem dX2_oddsOverWithin_164 : decode cX2_oddsOverWithin 164 = .ok (.aload_n 0, 1) := by decide +kernel
theorem dX2_oddsOverWithin_165 : decode cX2_oddsOverWithin 165 = .ok (.aload_n 1, 1) := by decide +kernel
theorem dX2_oddsOverWithin_166 : decode cX2_oddsOverWithin 166 = .ok (.iload 6, 2) := by decide +kernel
theorem dX2_oddsOverWithin_168 : decode cX2_oddsOverWithin 168 = .ok (.invokevirtual 131, 3) := by decide +kernel
theorem dX2_oddsOverWithin_171 : decode cX2_oddsOverWithin 171 = .ok (.aload_n 1, 1) := by decide +kernel
theorem dX2_oddsOverWithin_172 : decode cX2_oddsOverWithin 172 = .ok (.getfield 117, 3) := by decide +kernel
theorem dX2_oddsOverWithin_175 : decode cX2_oddsOverWithin 175 = .ok (.iload_n 2, 1) := by decide +kernel
theorem dX2_oddsOverWithin_176 : decode cX2_oddsOverWithin 176 = .ok (.dup2, 1) := by decide +kernel
theorem dX2_oddsOverWithin_177 : decode cX2_oddsOverWithin 177 = .ok (.iaload, 1) := by decide +kernel
theorem dX2_oddsOverWithin_178 : decode cX2_oddsOverWithin 178 = .ok (.iconst 1, 1) := by decide +kernel
theorem dX2_oddsOverWithin_179 : decode cX2_oddsOverWithin 179 = .ok (.isub, 1) := by decide +kernel
theorem dX2_oddsOverWithin_180 : decode cX2_oddsOverWithin 180 = .ok (.iastore, 1) := by decide +kernel
theorem dX2_oddsOverWithin_181 : decode cX2_oddsOverWithin 181 = .ok (.iload 5, 2) := by decide +kernel
theorem dX2_oddsOverWithin_183 : decode cX2_oddsOverWithin 183 = .ok (.ireturn, 1) := by decide +kernel
set_option maxRecDepth 20000 in
theorem ggX4_readSum_X4_readProduct : GoodIn wsX4_readSum wsX4_readProduct := goodIn_r _ [32, 1, 2, 3, 33, 34, 35, 7, 8, 9, 10, 11, 12, 13, 14, 15, 16, 17, 18, 19, 20, 21, 22, 23, 24, 25, 26, 27, 28, 29, 30, 31, 0, 4, 5, 6, 36, 37, 38, 39, 40, 41, 42, 43, 44, 45, 46, 47, 48, 49, 50, 51, 52, 53, 54, 55, 56, 57, 58, 59, 60, 61, 62, 63, 64, 65, 66, 67, 68, 69, 70, 71, 72, 73, 74, 75, 76, 77, 78, 79] (by decide +kernel) (by decide +kernel)
set_option maxRecDepth 20000 in
theorem gX4_readSum_X4_readProduct : GoodIn wsX4_readSum (wsV RX4 137 RX4 yX4_readProduct wsX4_readProduct) := goodIn_app (goodIn_of _ (by decide +kernel)) ggX4_readSum_X4_readProduct
set_option maxRecDepth 20000 in
theorem ggX4_readSum_X4_isAt : GoodIn wsX4_readSum wsX4_isAt := goodIn_r _ [11, 12, 1, 2, 46, 47, 48, 49, 50, 51, 52, 53, 54, 55, 56, 57, 58, 59, 60] (by decide +kernel) (by decide +kernel)
set_option maxRecDepth 20000 in
theorem gX4_readSum_X4_isAt : GoodIn wsX4_readSum (wsV RX4 53 RX4 yX4_isAt wsX4_isAt) := goodIn_app (goodIn_of _ (by decide +kernel)) ggX4_readSum_X4_isAt
set_option maxRecDepth 20000 in
theorem ggX4_readSum_X4_take : GoodIn wsX4_readSum wsX4_take := goodIn_r _ [16, 2, 8, 9, 10, 7, 11, 12, 1, 17, 18, 19, 20, 21, 46, 47, 48, 49, 50, 51, 52, 53, 54, 55, 56, 57, 58, 59, 60] (by decide +kernel) (by decide +kernel)
set_option maxRecDepth 20000 in
theorem gX4_readSum_X4_take : GoodIn wsX4_readSum (wsV RX4 81 RX4 yX4_take wsX4_take) := goodIn_app (goodIn_of _ (by decide +kernel)) ggX4_readSum_X4_take
set_option maxRecDepth 20000 in
theorem ggX4_readSum_X1_putSign : GoodIn wsX4_readSum wsX1_putSign := goodIn_r _ [25, 26, 27, 28, 23, 29, 30, 31, 71, 72, 73, 74, 75, 76, 77, 78, 79] (by decide +kernel) (by decide +kernel)
set_option maxRecDepth 20000 in
theorem gX4_readSum_X1_putSign_n140 : GoodIn wsX4_readSum (wsX1_putSign) := ggX4_readSum_X1_putSign
theorem dX4_readSum_0 : decode cX4_readSum 0 = .ok (.aload_n 0, 1) := by decide +kernel
theorem dX4_readSum_1 : decode cX4_readSum 1 = .ok (.iload_n 1, 1) := by decide +kernel
theorem dX4_readSum_2 : decode cX4_readSum 2 = .ok (.invokevirtual 137, 3) := by decide +kernel
theorem dX4_readSum_5 : decode cX4_readSum 5 = .ok (.iconst 0, 1) := by decide +kernel
theorem dX4_readSum_6 : decode cX4_readSum 6 = .ok (.istore_n 2, 1) := by decide +kernel
theorem dX4_readSum_7 : decode cX4_readSum 7 = .ok (.iload_n 2, 1) := by decide +kernel
theorem dX4_readSum_8 : decode cX4_readSum 8 = .ok (.sipush 400, 3) := by decide +kernel
theorem dX4_readSum_11 : decode cX4_readSum 11 = .ok (.if_icmp .ge 61, 3) := by decide +kernel
theorem dX4_readSum_14 : decode cX4_readSum 14 = .ok (.aload_n 0, 1) := by decide +kernel
theorem dX4_readSum_15 : decode cX4_readSum 15 = .ok (.bipush 43, 2) := by decide +kernel
theorem dX4_readSum_17 : decode cX4_readSum 17 = .ok (.invokevirtual 53, 3) := by decide +kernel
theorem dX4_readSum_20 : decode cX4_readSum 20 = .ok (.ifCond .ne 12, 3) := by decide +kernel
theorem dX4_readSum_23 : decode cX4_readSum 23 = .ok (.aload_n 0, 1) := by decide +kernel
theorem dX4_readSum_24 : decode cX4_readSum 24 = .ok (.bipush 45, 2) := by decide +kernel
theorem dX4_readSum_26 : decode cX4_readSum 26 = .ok (.invokevirtual 53, 3) := by decide +kernel
theorem dX4_readSum_29 : decode cX4_readSum 29 = .ok (.ifCond .eq 43, 3) := by decide +kernel
theorem dX4_readSum_32 : decode cX4_readSum 32 = .ok (.aload_n 0, 1) := by decide +kernel
theorem dX4_readSum_33 : decode cX4_readSum 33 = .ok (.getfield 31, 3) := by decide +kernel
theorem dX4_readSum_36 : decode cX4_readSum 36 = .ok (.getfield 63, 3) := by decide +kernel
theorem dX4_readSum_39 : decode cX4_readSum 39 = .ok (.aload_n 0, 1) := by decide +kernel
theorem dX4_readSum_40 : decode cX4_readSum 40 = .ok (.getfield 38, 3) := by decide +kernel
theorem dX4_readSum_43 : decode cX4_readSum 43 = .ok (.iaload, 1) := by decide +kernel
theorem dX4_readSum_44 : decode cX4_readSum 44 = .ok (.istore_n 3, 1) := by decide +kernel
theorem dX4_readSum_45 : decode cX4_readSum 45 = .ok (.aload_n 0, 1) := by decide +kernel
theorem dX4_readSum_46 : decode cX4_readSum 46 = .ok (.iload_n 3, 1) := by decide +kernel
theorem dX4_readSum_47 : decode cX4_readSum 47 = .ok (.invokevirtual 81, 3) := by decide +kernel
theorem dX4_readSum_50 : decode cX4_readSum 50 = .ok (.aload_n 0, 1) := by decide +kernel
theorem dX4_readSum_51 : decode cX4_readSum 51 = .ok (.iload_n 1, 1) := by decide +kernel
theorem dX4_readSum_52 : decode cX4_readSum 52 = .ok (.invokevirtual 137, 3) := by decide +kernel
theorem dX4_readSum_55 : decode cX4_readSum 55 = .ok (.aload_n 0, 1) := by decide +kernel
theorem dX4_readSum_56 : decode cX4_readSum 56 = .ok (.getfield 12, 3) := by decide +kernel
theorem dX4_readSum_59 : decode cX4_readSum 59 = .ok (.getfield 119, 3) := by decide +kernel
theorem dX4_readSum_62 : decode cX4_readSum 62 = .ok (.iload_n 3, 1) := by decide +kernel
theorem dX4_readSum_63 : decode cX4_readSum 63 = .ok (.invokevirtual 140, 3) := by decide +kernel
theorem dX4_readSum_66 : decode cX4_readSum 66 = .ok (.iinc 2 1, 3) := by decide +kernel
theorem dX4_readSum_69 : decode cX4_readSum 69 = .ok (.goto (-62), 3) := by decide +kernel
theorem dX4_readSum_72 : decode cX4_readSum 72 = .ok (.return_, 1) := by decide +kernel
set_option maxRecDepth 20000 in
theorem ggX4_readProduct_X4_readUnit : GoodIn wsX4_readProduct wsX4_readUnit := goodIn_r _ [36, 1, 2, 3, 8, 9, 10, 7, 11, 12, 37, 23, 38, 39, 26, 27, 28, 29, 30, 31, 13, 14, 15, 16, 17, 18, 19, 20, 21, 40, 41, 42, 43, 44, 45, 0, 4, 5, 6, 22, 24, 25, 32, 33, 34, 35, 46, 47, 48, 49, 50, 51, 52, 53, 54, 55, 56, 57, 58, 59, 60, 61, 62, 63, 64, 65, 66, 67, 68, 69, 70, 71, 72, 73, 74, 75, 76, 77, 78, 79] (by decide +kernel) (by decide +kernel)
set_option maxRecDepth 20000 in
theorem gX4_readProduct_X4_readUnit : GoodIn wsX4_readProduct (wsV RX4 143 RX4 yX4_readUnit wsX4_readUnit) := goodIn_app (goodIn_of _ (by decide +kernel)) ggX4_readProduct_X4_readUnit
set_option maxRecDepth 20000 in
theorem ggX4_readProduct_X4_isAt : GoodIn wsX4_readProduct wsX4_isAt := goodIn_r _ [11, 12, 1, 2, 46, 47, 48, 49, 50, 51, 52, 53, 54, 55, 56, 57, 58, 59, 60] (by decide +kernel) (by decide +kernel)
set_option maxRecDepth 20000 in
theorem gX4_readProduct_X4_isAt : GoodIn wsX4_readProduct (wsV RX4 53 RX4 yX4_isAt wsX4_isAt) := goodIn_app (goodIn_of _ (by decide +kernel)) ggX4_readProduct_X4_isAt
set_option maxRecDepth 20000 in
theorem ggX4_readProduct_X4_take : GoodIn wsX4_readProduct wsX4_take := goodIn_r _ [16, 2, 8, 9, 10, 7, 11, 12, 1, 17, 18, 19, 20, 21, 46, 47, 48, 49, 50, 51, 52, 53, 54, 55, 56, 57, 58, 59, 60] (by decide +kernel) (by decide +kernel)
set_option maxRecDepth 20000 in
theorem gX4_readProduct_X4_take : GoodIn wsX4_readProduct (wsV RX4 81 RX4 yX4_take wsX4_take) := goodIn_app (goodIn_of _ (by decide +kernel)) ggX4_readProduct_X4_take
set_option maxRecDepth 20000 in
theorem ggX4_readProduct_X1_putSign : GoodIn wsX4_readProduct wsX1_putSign := goodIn_r _ [25, 26, 27, 28, 23, 29, 30, 31, 71, 72, 73, 74, 75, 76, 77, 78, 79] (by decide +kernel) (by decide +kernel)
set_option maxRecDepth 20000 in
theorem gX4_readProduct_X1_putSign_n140 : GoodIn wsX4_readProduct (wsX1_putSign) := ggX4_readProduct_X1_putSign
theorem dX4_readProduct_0 : decode cX4_readProduct 0 = .ok (.aload_n 0, 1) := by decide +kernel
theorem dX4_readProduct_1 : decode cX4_readProduct 1 = .ok (.iload_n 1, 1) := by decide +kernel
theorem dX4_readProduct_2 : decode cX4_readProduct 2 = .ok (.invokevirtual 143, 3) := by decide +kernel
theorem dX4_readProduct_5 : decode cX4_readProduct 5 = .ok (.iconst 0, 1) := by decide +kernel
theorem dX4_readProduct_6 : decode cX4_readProduct 6 = .ok (.istore_n 2, 1) := by decide +kernel
theorem dX4_readProduct_7 : decode cX4_readProduct 7 = .ok (.iload_n 2, 1) := by decide +kernel
theorem dX4_readProduct_8 : decode cX4_readProduct 8 = .ok (.sipush 400, 3) := by decide +kernel
theorem dX4_readProduct_11 : decode cX4_readProduct 11 = .ok (.if_icmp .ge 61, 3) := by decide +kernel
theorem dX4_readProduct_14 : decode cX4_readProduct 14 = .ok (.aload_n 0, 1) := by decide +kernel
theorem dX4_readProduct_15 : decode cX4_readProduct 15 = .ok (.bipush 42, 2) := by decide +kernel
theorem dX4_readProduct_17 : decode cX4_readProduct 17 = .ok (.invokevirtual 53, 3) := by decide +kernel
theorem dX4_readProduct_20 : decode cX4_readProduct 20 = .ok (.ifCond .ne 12, 3) := by decide +kernel
theorem dX4_readProduct_23 : decode cX4_readProduct 23 = .ok (.aload_n 0, 1) := by decide +kernel
theorem dX4_readProduct_24 : decode cX4_readProduct 24 = .ok (.bipush 47, 2) := by decide +kernel
theorem dX4_readProduct_26 : decode cX4_readProduct 26 = .ok (.invokevirtual 53, 3) := by decide +kernel
theorem dX4_readProduct_29 : decode cX4_readProduct 29 = .ok (.ifCond .eq 43, 3) := by decide +kernel
theorem dX4_readProduct_32 : decode cX4_readProduct 32 = .ok (.aload_n 0, 1) := by decide +kernel
theorem dX4_readProduct_33 : decode cX4_readProduct 33 = .ok (.getfield 31, 3) := by decide +kernel
theorem dX4_readProduct_36 : decode cX4_readProduct 36 = .ok (.getfield 63, 3) := by decide +kernel
theorem dX4_readProduct_39 : decode cX4_readProduct 39 = .ok (.aload_n 0, 1) := by decide +kernel
theorem dX4_readProduct_40 : decode cX4_readProduct 40 = .ok (.getfield 38, 3) := by decide +kernel
theorem dX4_readProduct_43 : decode cX4_readProduct 43 = .ok (.iaload, 1) := by decide +kernel
theorem dX4_readProduct_44 : decode cX4_readProduct 44 = .ok (.istore_n 3, 1) := by decide +kernel
theorem dX4_readProduct_45 : decode cX4_readProduct 45 = .ok (.aload_n 0, 1) := by decide +kernel
theorem dX4_readProduct_46 : decode cX4_readProduct 46 = .ok (.iload_n 3, 1) := by decide +kernel
theorem dX4_readProduct_47 : decode cX4_readProduct 47 = .ok (.invokevirtual 81, 3) := by decide +kernel
theorem dX4_readProduct_50 : decode cX4_readProduct 50 = .ok (.aload_n 0, 1) := by decide +kernel
theorem dX4_readProduct_51 : decode cX4_readProduct 51 = .ok (.iload_n 1, 1) := by decide +kernel
theorem dX4_readProduct_52 : decode cX4_readProduct 52 = .ok (.invokevirtual 143, 3) := by decide +kernel
theorem dX4_readProduct_55 : decode cX4_readProduct 55 = .ok (.aload_n 0, 1) := by decide +kernel
theorem dX4_readProduct_56 : decode cX4_readProduct 56 = .ok (.getfield 12, 3) := by decide +kernel
theorem dX4_readProduct_59 : decode cX4_readProduct 59 = .ok (.getfield 119, 3) := by decide +kernel
theorem dX4_readProduct_62 : decode cX4_readProduct 62 = .ok (.iload_n 3, 1) := by decide +kernel
theorem dX4_readProduct_63 : decode cX4_readProduct 63 = .ok (.invokevirtual 140, 3) := by decide +kernel
theorem dX4_readProduct_66 : decode cX4_readProduct 66 = .ok (.iinc 2 1, 3) := by decide +kernel
theorem dX4_readProduct_69 : decode cX4_readProduct 69 = .ok (.goto (-62), 3) := by decide +kernel
theorem dX4_readProduct_72 : decode cX4_readProduct 72 = .ok (.return_, 1) := by decide +kernel
set_option maxRecDepth 20000 in
theorem ggX4_readUnit_X4_isAt : GoodIn wsX4_readUnit wsX4_isAt := goodIn_r _ [8, 9, 1, 2, 46, 47, 48, 49, 50, 51, 52, 53, 54, 55, 56, 57, 58, 59, 60] (by decide +kernel) (by decide +kernel)
set_option maxRecDepth 20000 in
theorem gX4_readUnit_X4_isAt : GoodIn wsX4_readUnit (wsV RX4 53 RX4 yX4_isAt wsX4_isAt) := goodIn_app (goodIn_of _ (by decide +kernel)) ggX4_readUnit_X4_isAt
set_option maxRecDepth 20000 in
theorem ggX4_readUnit_X1_putNumber : GoodIn wsX4_readUnit wsX1_putNumber := goodIn_r _ [13, 14, 15, 16, 11, 17, 18, 19, 71, 72, 73, 74, 75, 76, 77, 78, 79] (by decide +kernel) (by decide +kernel)
set_option maxRecDepth 20000 in
theorem gX4_readUnit_X1_putNumber_n146 : GoodIn wsX4_readUnit (wsX1_putNumber) := ggX4_readUnit_X1_putNumber
set_option maxRecDepth 20000 in
theorem ggX4_readUnit_X4_take : GoodIn wsX4_readUnit wsX4_take := goodIn_r _ [23, 2, 4, 5, 6, 7, 8, 9, 1, 24, 25, 26, 27, 28, 46, 47, 48, 49, 50, 51, 52, 53, 54, 55, 56, 57, 58, 59, 60] (by decide +kernel) (by decide +kernel)
set_option maxRecDepth 20000 in
theorem gX4_readUnit_X4_take : GoodIn wsX4_readUnit (wsV RX4 81 RX4 yX4_take wsX4_take) := goodIn_app (goodIn_of _ (by decide +kernel)) ggX4_readUnit_X4_take
set_option maxRecDepth 20000 in
theorem ggX4_readUnit_X1_putVar : GoodIn wsX4_readUnit wsX1_putVar := goodIn_r _ [31, 14, 15, 16, 11, 17, 18, 19, 71, 72, 73, 74, 75, 76, 77, 78, 79] (by decide +kernel) (by decide +kernel)
set_option maxRecDepth 20000 in
theorem gX4_readUnit_X1_putVar_n149 : GoodIn wsX4_readUnit (wsX1_putVar) := ggX4_readUnit_X1_putVar
set_option maxRecDepth 20000 in
theorem ggX4_readUnit_X4_fail : GoodIn wsX4_readUnit wsX4_fail := goodIn_r _ [27, 9, 1, 2, 28, 46, 47, 48, 49, 50, 51, 52, 53, 54, 55, 56, 57, 58, 59, 60] (by decide +kernel) (by decide +kernel)
set_option maxRecDepth 20000 in
theorem gX4_readUnit_X4_fail : GoodIn wsX4_readUnit (wsV RX4 70 RX4 yX4_fail wsX4_fail) := goodIn_app (goodIn_of _ (by decide +kernel)) ggX4_readUnit_X4_fail
set_option maxRecDepth 20000 in
theorem ggX4_readUnit_X4_readSum : GoodIn wsX4_readUnit wsX4_readSum := goodIn_r _ [42, 1, 2, 3, 43, 44, 45, 7, 4, 5, 6, 8, 9, 20, 21, 22, 23, 24, 25, 26, 27, 28, 39, 11, 40, 41, 14, 15, 16, 17, 18, 19, 35, 36, 37, 38, 0, 10, 12, 13, 29, 30, 31, 32, 33, 34, 46, 47, 48, 49, 50, 51, 52, 53, 54, 55, 56, 57, 58, 59, 60, 61, 62, 63, 64, 65, 66, 67, 68, 69, 70, 71, 72, 73, 74, 75, 76, 77, 78, 79] (by decide +kernel) (by decide +kernel)
set_option maxRecDepth 20000 in
theorem gX4_readUnit_X4_readSum : GoodIn wsX4_readUnit (wsV RX4 131 RX4 yX4_readSum wsX4_readSum) := goodIn_app (goodIn_of _ (by decide +kernel)) ggX4_readUnit_X4_readSum
theorem dX4_readUnit_0 : decode cX4_readUnit 0 = .ok (.aload_n 0, 1) := by decide +kernel
theorem dX4_readUnit_1 : decode cX4_readUnit 1 = .ok (.getfield 31, 3) := by decide +kernel
theorem dX4_readUnit_4 : decode cX4_readUnit 4 = .ok (.getfield 63, 3) := by decide +kernel
theorem dX4_readUnit_7 : decode cX4_readUnit 7 = .ok (.aload_n 0, 1) := by decide +kernel
theorem dX4_readUnit_8 : decode cX4_readUnit 8 = .ok (.getfield 38, 3) := by decide +kernel
theorem dX4_readUnit_11 : decode cX4_readUnit 11 = .ok (.iaload, 1) := by decide +kernel
theorem dX4_readUnit_12 : decode cX4_readUnit 12 = .ok (.istore_n 2, 1) := by decide +kernel
theorem dX4_readUnit_13 : decode cX4_readUnit 13 = .ok (.iload_n 2, 1) := by decide +kernel
theorem dX4_readUnit_14 : decode cX4_readUnit 14 = .ok (.sipush 266, 3) := by decide +kernel
theorem dX4_readUnit_17 : decode cX4_readUnit 17 = .ok (.isub, 1) := by decide +kernel
theorem dX4_readUnit_18 : decode cX4_readUnit 18 = .ok (.istore_n 3, 1) := by decide +kernel
theorem dX4_readUnit_19 : decode cX4_readUnit 19 = .ok (.aload_n 0, 1) := by decide +kernel
theorem dX4_readUnit_20 : decode cX4_readUnit 20 = .ok (.sipush 301, 3) := by decide +kernel
theorem dX4_readUnit_23 : decode cX4_readUnit 23 = .ok (.invokevirtual 53, 3) := by decide +kernel
theorem dX4_readUnit_26 : decode cX4_readUnit 26 = .ok (.ifCond .eq 36, 3) := by decide +kernel
theorem dX4_readUnit_29 : decode cX4_readUnit 29 = .ok (.aload_n 0, 1) := by decide +kernel
theorem dX4_readUnit_30 : decode cX4_readUnit 30 = .ok (.getfield 12, 3) := by decide +kernel
theorem dX4_readUnit_33 : decode cX4_readUnit 33 = .ok (.getfield 119, 3) := by decide +kernel
theorem dX4_readUnit_36 : decode cX4_readUnit 36 = .ok (.aload_n 0, 1) := by decide +kernel
theorem dX4_readUnit_37 : decode cX4_readUnit 37 = .ok (.getfield 31, 3) := by decide +kernel
theorem dX4_readUnit_40 : decode cX4_readUnit 40 = .ok (.getfield 74, 3) := by decide +kernel
theorem dX4_readUnit_43 : decode cX4_readUnit 43 = .ok (.aload_n 0, 1) := by decide +kernel
theorem dX4_readUnit_44 : decode cX4_readUnit 44 = .ok (.getfield 38, 3) := by decide +kernel
theorem dX4_readUnit_47 : decode cX4_readUnit 47 = .ok (.laload, 1) := by decide +kernel
theorem dX4_readUnit_48 : decode cX4_readUnit 48 = .ok (.l2i, 1) := by decide +kernel
theorem dX4_readUnit_49 : decode cX4_readUnit 49 = .ok (.invokevirtual 146, 3) := by decide +kernel
theorem dX4_readUnit_52 : decode cX4_readUnit 52 = .ok (.aload_n 0, 1) := by decide +kernel
theorem dX4_readUnit_53 : decode cX4_readUnit 53 = .ok (.sipush 301, 3) := by decide +kernel
theorem dX4_readUnit_56 : decode cX4_readUnit 56 = .ok (.invokevirtual 81, 3) := by decide +kernel
theorem dX4_readUnit_59 : decode cX4_readUnit 59 = .ok (.goto 91, 3) := by decide +kernel
theorem dX4_readUnit_62 : decode cX4_readUnit 62 = .ok (.iload_n 3, 1) := by decide +kernel
theorem dX4_readUnit_63 : decode cX4_readUnit 63 = .ok (.ifCond .lt 28, 3) := by decide +kernel
theorem dX4_readUnit_66 : decode cX4_readUnit 66 = .ok (.iload_n 3, 1) := by decide +kernel
theorem dX4_readUnit_67 : decode cX4_readUnit 67 = .ok (.bipush 9, 2) := by decide +kernel
theorem dX4_readUnit_69 : decode cX4_readUnit 69 = .ok (.if_icmp .ge 22, 3) := by decide +kernel
theorem dX4_readUnit_72 : decode cX4_readUnit 72 = .ok (.aload_n 0, 1) := by decide +kernel
theorem dX4_readUnit_73 : decode cX4_readUnit 73 = .ok (.getfield 12, 3) := by decide +kernel
theorem dX4_readUnit_76 : decode cX4_readUnit 76 = .ok (.getfield 119, 3) := by decide +kernel
theorem dX4_readUnit_79 : decode cX4_readUnit 79 = .ok (.iload_n 3, 1) := by decide +kernel
theorem dX4_readUnit_80 : decode cX4_readUnit 80 = .ok (.invokevirtual 149, 3) := by decide +kernel
theorem dX4_readUnit_83 : decode cX4_readUnit 83 = .ok (.aload_n 0, 1) := by decide +kernel
theorem dX4_readUnit_84 : decode cX4_readUnit 84 = .ok (.iload_n 2, 1) := by decide +kernel
theorem dX4_readUnit_85 : decode cX4_readUnit 85 = .ok (.invokevirtual 81, 3) := by decide +kernel
theorem dX4_readUnit_88 : decode cX4_readUnit 88 = .ok (.goto 62, 3) := by decide +kernel
theorem dX4_readUnit_91 : decode cX4_readUnit 91 = .ok (.aload_n 0, 1) := by decide +kernel
theorem dX4_readUnit_92 : decode cX4_readUnit 92 = .ok (.bipush 40, 2) := by decide +kernel
theorem dX4_readUnit_94 : decode cX4_readUnit 94 = .ok (.invokevirtual 53, 3) := by decide +kernel
theorem dX4_readUnit_97 : decode cX4_readUnit 97 = .ok (.ifCond .eq 17, 3) := by decide +kernel
theorem dX4_readUnit_100 : decode cX4_readUnit 100 = .ok (.iload_n 1, 1) := by decide +kernel
theorem dX4_readUnit_101 : decode cX4_readUnit 101 = .ok (.bipush 6, 2) := by decide +kernel
theorem dX4_readUnit_103 : decode cX4_readUnit 103 = .ok (.if_icmp .lt 11, 3) := by decide +kernel
theorem dX4_readUnit_106 : decode cX4_readUnit 106 = .ok (.aload_n 0, 1) := by decide +kernel
theorem dX4_readUnit_107 : decode cX4_readUnit 107 = .ok (.iconst 2, 1) := by decide +kernel
theorem dX4_readUnit_108 : decode cX4_readUnit 108 = .ok (.invokevirtual 70, 3) := by decide +kernel
theorem dX4_readUnit_111 : decode cX4_readUnit 111 = .ok (.goto 39, 3) := by decide +kernel
theorem dX4_readUnit_114 : decode cX4_readUnit 114 = .ok (.aload_n 0, 1) := by decide +kernel
theorem dX4_readUnit_115 : decode cX4_readUnit 115 = .ok (.bipush 40, 2) := by decide +kernel
theorem dX4_readUnit_117 : decode cX4_readUnit 117 = .ok (.invokevirtual 53, 3) := by decide +kernel
theorem dX4_readUnit_120 : decode cX4_readUnit 120 = .ok (.ifCond .eq 25, 3) := by decide +kernel
theorem dX4_readUnit_123 : decode cX4_readUnit 123 = .ok (.aload_n 0, 1) := by decide +kernel
theorem dX4_readUnit_124 : decode cX4_readUnit 124 = .ok (.bipush 40, 2) := by decide +kernel
theorem dX4_readUnit_126 : decode cX4_readUnit 126 = .ok (.invokevirtual 81, 3) := by decide +kernel
theorem dX4_readUnit_129 : decode cX4_readUnit 129 = .ok (.aload_n 0, 1) := by decide +kernel
theorem dX4_readUnit_130 : decode cX4_readUnit 130 = .ok (.iload_n 1, 1) := by decide +kernel
theorem dX4_readUnit_131 : decode cX4_readUnit 131 = .ok (.iconst 1, 1) := by decide +kernel
theorem dX4_readUnit_132 : decode cX4_readUnit 132 = .ok (.iadd, 1) := by decide +kernel
theorem dX4_readUnit_133 : decode cX4_readUnit 133 = .ok (.invokevirtual 131, 3) := by decide +kernel
theorem dX4_readUnit_136 : decode cX4_readUnit 136 = .ok (.aload_n 0, 1) := by decide +kernel
theorem dX4_readUnit_137 : decode cX4_readUnit 137 = .ok (.bipush 41, 2) := by decide +kernel
theorem dX4_readUnit_139 : decode cX4_readUnit 139 = .ok (.invokevirtual 81, 3) := by decide +kernel
theorem dX4_readUnit_142 : decode cX4_readUnit 142 = .ok (.goto 8, 3) := by decide +kernel
theorem dX4_readUnit_145 : decode cX4_readUnit 145 = .ok (.aload_n 0, 1) := by decide +kernel
theorem dX4_readUnit_146 : decode cX4_readUnit 146 = .ok (.iconst 1, 1) := by decide +kernel
theorem dX4_readUnit_147 : decode cX4_readUnit 147 = .ok (.invokevirtual 70, 3) := by decide +kernel
theorem dX4_readUnit_150 : decode cX4_readUnit 150 = .ok (.return_, 1) := by decide +kernel
theorem LX4_readUnit_12 : Cond.fieldLink RX4 12 "GuessFerry$Reader" "draft" "LGuessFerry$Sound;" ∈ wsX4_readUnit := by decide +kernel
theorem LX4_readUnit_31 : Cond.fieldLink RX4 31 "GuessFerry$Reader" "tokens" "LGuessFerry$Tokens;" ∈ wsX4_readUnit := by decide +kernel
theorem LX4_readUnit_38 : Cond.fieldLink RX4 38 "GuessFerry$Reader" "at" "I" ∈ wsX4_readUnit := by decide +kernel
theorem LX4_readUnit_E_X1_putNumber : Cond.selects RX1 yX1_putNumber yX1_putNumber ∈ wsX4_readUnit := by decide +kernel
theorem LX4_readUnit_E_X1_putVar : Cond.selects RX1 yX1_putVar yX1_putVar ∈ wsX4_readUnit := by decide +kernel
theorem LX4_readUnit_I_X1 : Cond.initialized RX1 ∈ wsX4_readUnit := by decide +kernel
theorem LX4_readUnit_N_X1_putNumber : Cond.instanceMethod yX1_putNumber ∈ wsX4_readUnit := by decide +kernel
theorem LX4_readUnit_N_X1_putVar : Cond.instanceMethod yX1_putVar ∈ wsX4_readUnit := by decide +kernel
theorem inX4_readUnit_X4 : ∀ w ∈ u_ws RX4 TX4 8, w ∈ wsX4_readUnit := by decide +kernel
theorem inX4_readUnit_X5 : ∀ w ∈ u_ws RX5 TX5 10, w ∈ wsX4_readUnit := by decide +kernel
theorem inX4_readUnit_X9 : ∀ w ∈ u_ws RX9 TX9 7, w ∈ wsX4_readUnit := by decide +kernel
set_option maxHeartbeats 4000000 in
set_option maxRecDepth 100000 in
theorem bkX4_readUnit_114 {l : Launch} {dC : Nat → ClassId} {dI : Nat → Nat → Nat} {cB cI cJ cZ cS : ClassId} {a : Nat → Nat} {R : KS → Int32 → Option KS} {fr lo : Nat} (hR : ∀ {s : KS} {x1 : Int32} {s' : KS}, R s x1 = some s' → CV l yX4_readSum wsX4_readSum ({ frames := fr, cells := 0, slots := 0, locals := lo }) (dC, dI) (tysA cB cI cJ cZ cS) (wK cB cI cJ cZ cS a s) [.ref (a 28), .int x1] (fun u => u = wK cB cI cJ cZ cS a s')) (hfr : 2 ≤ fr) (hlo : 42 ≤ lo) {as : List Value} {s' : KS} (s : KS) (x1 : Int32) (hB : kX4_readUnit_114 R s x1 = some s') : BlkV l yX4_readUnit wsX4_readUnit ({ frames := fr + 1, cells := 0, slots := 0, locals := lo + 23 }) cX4_readUnit 4 none (dC, dI) (tysA cB cI cJ cZ cS) as 114 (wK cB cI cJ cZ cS a s) [(0, .ref (a 28)), (1, .int x1)] [] (fun u => u = (wK cB cI cJ cZ cS a s')) := by
  intro p e s0 m below meth c A E H locs ls hP hD hS hl
  obtain ⟨C, hr, hlocks, hA, hK, hN⟩ := id E
  obtain ⟨hx, hb, hml, hown, hts⟩ := id C
  unfold kX4_readUnit_114 at hB
  refine lv_aload_n hx hb dX4_readUnit_114 rfl (lv_at hl 0 rfl) ?_
  refine lv_bipush (v := 40) hx hb dX4_readUnit_115 (by decide) ?_
  obtain ⟨q_, s1, hc, hB⟩ := bindI_inv hB
  refine q_goiF (va_runV (As := [.int 40]) (rest := []) C (ckX4_isAt hc _) (cwV 1 hts gX4_readUnit_X4_isAt rfl rfl rfl (by decide +kernel) ⟨by dsimp only; omega, by dsimp only; omega⟩) (q_preV hK hP (ci := 4) (q0 := 28) rfl rfl rfl (q_preF hN hK hP hD)) rfl rfl hl.1 rfl (lv_room (Nat.le_of_ble_eq_true rfl)) dX4_readUnit_117 ⟨Nat.le_of_ble_eq_true rfl, Nat.le_of_ble_eq_true rfl⟩) hD hS hA (fun r2 w1 H locs hw hP hD hS => ?_)
  obtain ⟨hq_, hw⟩ := hw; subst hw; subst hq_
  refine lv_if_eq (tgt := 145) hx hb dX4_readUnit_120 (by decide) (fun c3 => ?_) (fun c3 => ?_)
  · have hB := if_p hB c3
    refine lv_aload_n hx hb dX4_readUnit_145 rfl (lv_at hl 0 rfl) ?_
    refine lv_iconst (v := 1) hx hb dX4_readUnit_146 (by decide) ?_
    obtain ⟨s4, hc, hB⟩ := bindP_inv hB
    refine q_govF (va_runV (As := [.int 1]) (rest := []) C (ckX4_fail hc _) (cwV 1 hts gX4_readUnit_X4_fail rfl rfl rfl (by decide +kernel) ⟨by dsimp only; omega, by dsimp only; omega⟩) (q_preV hK hP (ci := 4) (q0 := 28) rfl rfl rfl (q_preF hN hK hP hD)) rfl rfl hl.1 rfl (lv_room (Nat.le_of_ble_eq_true rfl)) dX4_readUnit_147 ⟨Nat.le_of_ble_eq_true rfl, Nat.le_of_ble_eq_true rfl⟩) hD hS hA (fun w1 H locs hw hP hD hS => ?_)
    subst hw
    exact q_vret C hr hlocks hK hP hD hS (Nat.le_of_ble_eq_true rfl) (Nat.le_of_ble_eq_true rfl) dX4_readUnit_150 (by cases hB; rfl)
  · have hB := if_n hB c3
    refine lv_aload_n hx hb dX4_readUnit_123 rfl (lv_at hl 0 rfl) ?_
    refine lv_bipush (v := 40) hx hb dX4_readUnit_124 (by decide) ?_
    obtain ⟨s5, hc, hB⟩ := bindP_inv hB
    refine q_govF (va_runV (As := [.int 40]) (rest := []) C (ckX4_take hc _) (cwV 1 hts gX4_readUnit_X4_take rfl rfl rfl (by decide +kernel) ⟨by dsimp only; omega, by dsimp only; omega⟩) (q_preV hK hP (ci := 4) (q0 := 28) rfl rfl rfl (q_preF hN hK hP hD)) rfl rfl hl.1 rfl (lv_room (Nat.le_of_ble_eq_true rfl)) dX4_readUnit_126 ⟨Nat.le_of_ble_eq_true rfl, Nat.le_of_ble_eq_true rfl⟩) hD hS hA (fun w1 H locs hw hP hD hS => ?_)
    subst hw
    refine lv_aload_n hx hb dX4_readUnit_129 rfl (lv_at hl 0 rfl) ?_
    refine lv_iload_n hx hb dX4_readUnit_130 rfl (lv_at hl 1 rfl) ?_
    refine lv_iconst (v := 1) hx hb dX4_readUnit_131 (by decide) ?_
    refine lv_iadd hx hb dX4_readUnit_132 ?_
    obtain ⟨s6, hc, hB⟩ := bindP_inv hB
    refine q_govF (va_runV (As := [.int (x1 + 1)]) (rest := []) C (hR hc _) (cwV 1 hts gX4_readUnit_X4_readSum rfl rfl rfl (by decide +kernel) ⟨by dsimp only; omega, by dsimp only; omega⟩) (q_preV hK hP (ci := 4) (q0 := 28) rfl rfl rfl (q_preF hN hK hP hD)) rfl rfl hl.1 rfl (lv_room (Nat.le_of_ble_eq_true rfl)) dX4_readUnit_133 ⟨Nat.le_of_ble_eq_true rfl, Nat.le_of_ble_eq_true rfl⟩) hD hS hA (fun w1 H locs hw hP hD hS => ?_)
    subst hw
    refine lv_aload_n hx hb dX4_readUnit_136 rfl (lv_at hl 0 rfl) ?_
    refine lv_bipush (v := 41) hx hb dX4_readUnit_137 (by decide) ?_
    obtain ⟨s7, hc, hB⟩ := bindP_inv hB
    refine q_govF (va_runV (As := [.int 41]) (rest := []) C (ckX4_take hc _) (cwV 1 hts gX4_readUnit_X4_take rfl rfl rfl (by decide +kernel) ⟨by dsimp only; omega, by dsimp only; omega⟩) (q_preV hK hP (ci := 4) (q0 := 28) rfl rfl rfl (q_preF hN hK hP hD)) rfl rfl hl.1 rfl (lv_room (Nat.le_of_ble_eq_true rfl)) dX4_readUnit_139 ⟨Nat.le_of_ble_eq_true rfl, Nat.le_of_ble_eq_true rfl⟩) hD hS hA (fun w1 H locs hw hP hD hS => ?_)
    subst hw
    refine lv_goto (tgt := 150) hx hb dX4_readUnit_142 (by decide) ?_
    exact q_vret C hr hlocks hK hP hD hS (Nat.le_of_ble_eq_true rfl) (Nat.le_of_ble_eq_true rfl) dX4_readUnit_150 (by cases hB; rfl)
set_option maxHeartbeats 4000000 in
set_option maxRecDepth 100000 in
theorem bkX4_readUnit_91 {l : Launch} {dC : Nat → ClassId} {dI : Nat → Nat → Nat} {cB cI cJ cZ cS : ClassId} {a : Nat → Nat} {R : KS → Int32 → Option KS} {fr lo : Nat} (hR : ∀ {s : KS} {x1 : Int32} {s' : KS}, R s x1 = some s' → CV l yX4_readSum wsX4_readSum ({ frames := fr, cells := 0, slots := 0, locals := lo }) (dC, dI) (tysA cB cI cJ cZ cS) (wK cB cI cJ cZ cS a s) [.ref (a 28), .int x1] (fun u => u = wK cB cI cJ cZ cS a s')) (hfr : 2 ≤ fr) (hlo : 42 ≤ lo) {as : List Value} {s' : KS} (s : KS) (x1 : Int32) (hB : kX4_readUnit_91 R s x1 = some s') : BlkV l yX4_readUnit wsX4_readUnit ({ frames := fr + 1, cells := 0, slots := 0, locals := lo + 23 }) cX4_readUnit 4 none (dC, dI) (tysA cB cI cJ cZ cS) as 91 (wK cB cI cJ cZ cS a s) [(0, .ref (a 28)), (1, .int x1)] [] (fun u => u = (wK cB cI cJ cZ cS a s')) := by
  intro p e s0 m below meth c A E H locs ls hP hD hS hl
  obtain ⟨C, hr, hlocks, hA, hK, hN⟩ := id E
  obtain ⟨hx, hb, hml, hown, hts⟩ := id C
  unfold kX4_readUnit_91 at hB
  refine lv_aload_n hx hb dX4_readUnit_91 rfl (lv_at hl 0 rfl) ?_
  refine lv_bipush (v := 40) hx hb dX4_readUnit_92 (by decide) ?_
  obtain ⟨q_, s1, hc, hB⟩ := bindI_inv hB
  refine q_goiF (va_runV (As := [.int 40]) (rest := []) C (ckX4_isAt hc _) (cwV 1 hts gX4_readUnit_X4_isAt rfl rfl rfl (by decide +kernel) ⟨by dsimp only; omega, by dsimp only; omega⟩) (q_preV hK hP (ci := 4) (q0 := 28) rfl rfl rfl (q_preF hN hK hP hD)) rfl rfl hl.1 rfl (lv_room (Nat.le_of_ble_eq_true rfl)) dX4_readUnit_94 ⟨Nat.le_of_ble_eq_true rfl, Nat.le_of_ble_eq_true rfl⟩) hD hS hA (fun r2 w1 H locs hw hP hD hS => ?_)
  obtain ⟨hq_, hw⟩ := hw; subst hw; subst hq_
  refine lv_if_eq (tgt := 114) hx hb dX4_readUnit_97 (by decide) (fun c3 => ?_) (fun c3 => ?_)
  · have hB := if_p hB c3
    exact bkX4_readUnit_114 hR hfr hlo _ _ hB p e s0 m below meth c A E H locs ls hP hD hS (lv_sub hl [0, 1] rfl)
  · have hB := if_n hB c3
    refine lv_iload_n hx hb dX4_readUnit_100 rfl (lv_at hl 1 rfl) ?_
    refine lv_bipush (v := 6) hx hb dX4_readUnit_101 (by decide) ?_
    refine lv_icmp_lt (tgt := 114) hx hb dX4_readUnit_103 (by decide) (fun c4 => ?_) (fun c4 => ?_)
    · have hB := if_p hB c4
      exact bkX4_readUnit_114 hR hfr hlo _ _ hB p e s0 m below meth c A E H locs ls hP hD hS (lv_sub hl [0, 1] rfl)
    · have hB := if_n hB c4
      refine lv_aload_n hx hb dX4_readUnit_106 rfl (lv_at hl 0 rfl) ?_
      refine lv_iconst (v := 2) hx hb dX4_readUnit_107 (by decide) ?_
      obtain ⟨s5, hc, hB⟩ := bindP_inv hB
      refine q_govF (va_runV (As := [.int 2]) (rest := []) C (ckX4_fail hc _) (cwV 1 hts gX4_readUnit_X4_fail rfl rfl rfl (by decide +kernel) ⟨by dsimp only; omega, by dsimp only; omega⟩) (q_preV hK hP (ci := 4) (q0 := 28) rfl rfl rfl (q_preF hN hK hP hD)) rfl rfl hl.1 rfl (lv_room (Nat.le_of_ble_eq_true rfl)) dX4_readUnit_108 ⟨Nat.le_of_ble_eq_true rfl, Nat.le_of_ble_eq_true rfl⟩) hD hS hA (fun w1 H locs hw hP hD hS => ?_)
      subst hw
      refine lv_goto (tgt := 150) hx hb dX4_readUnit_111 (by decide) ?_
      exact q_vret C hr hlocks hK hP hD hS (Nat.le_of_ble_eq_true rfl) (Nat.le_of_ble_eq_true rfl) dX4_readUnit_150 (by cases hB; rfl)
set_option maxHeartbeats 4000000 in
set_option maxRecDepth 100000 in
theorem bkX4_readUnit {l : Launch} {dC : Nat → ClassId} {dI : Nat → Nat → Nat} {cB cI cJ cZ cS : ClassId} {a : Nat → Nat} {R : KS → Int32 → Option KS} {fr lo : Nat} (hR : ∀ {s : KS} {x1 : Int32} {s' : KS}, R s x1 = some s' → CV l yX4_readSum wsX4_readSum ({ frames := fr, cells := 0, slots := 0, locals := lo }) (dC, dI) (tysA cB cI cJ cZ cS) (wK cB cI cJ cZ cS a s) [.ref (a 28), .int x1] (fun u => u = wK cB cI cJ cZ cS a s')) (hfr : 2 ≤ fr) (hlo : 42 ≤ lo) {as : List Value} {s' : KS} (s : KS) (x1 : Int32) (hB : kX4_readUnit R s x1 = some s') : BlkV l yX4_readUnit wsX4_readUnit ({ frames := fr + 1, cells := 0, slots := 0, locals := lo + 23 }) cX4_readUnit 4 none (dC, dI) (tysA cB cI cJ cZ cS) as 0 (wK cB cI cJ cZ cS a s) [(0, .ref (a 28)), (1, .int x1)] [] (fun u => u = (wK cB cI cJ cZ cS a s')) := by
  intro p e s0 m below meth c A E H locs ls hP hD hS hl
  obtain ⟨C, hr, hlocks, hA, hK, hN⟩ := id E
  obtain ⟨hx, hb, hml, hown, hts⟩ := id C
  unfold kX4_readUnit at hB
  refine lv_aload_n hx hb dX4_readUnit_0 rfl (lv_at hl 0 rfl) ?_
  refine q_get (v := .ref (a 30)) C inX4_readUnit_X4 hK hP 28 rfl rfl 0 (by decide) rfl LX4_readUnit_31 rfl dX4_readUnit_1 ?_
  refine q_getN (v := .ref (a 32)) C hN inX4_readUnit_X9 hK hP 30 rfl rfl 2 (by decide) rfl nwF_X4_63 rfl dX4_readUnit_4 ?_
  refine lv_aload_n hx hb dX4_readUnit_7 rfl (lv_at hl 0 rfl) ?_
  refine q_get (v := .int (s.v 15)) C inX4_readUnit_X4 hK hP 28 rfl rfl 3 (by decide) rfl LX4_readUnit_38 rfl dX4_readUnit_8 ?_
  obtain ⟨g1, hB⟩ := guard_inv hB
  refine q_iald (x := ((s.f 32) (Int32.toNatClampNeg (s.v 15)))) C hK hP 32 1 rfl rfl (vpb_in g1) dX4_readUnit_11 rfl ?_
  refine lv_istore_n (lv' := [(2, .int ((s.f 32) (Int32.toNatClampNeg (s.v 15)))), (0, .ref (a 28)), (1, .int x1)]) hx hb dX4_readUnit_12 rfl hl (by decide) rfl (fun ls hl => ?_)
  refine lv_iload_n hx hb dX4_readUnit_13 rfl (lv_at hl 0 rfl) ?_
  refine lv_sipush (v := 266) hx hb dX4_readUnit_14 (by decide) ?_
  refine lv_isub hx hb dX4_readUnit_17 ?_
  refine lv_istore_n (lv' := [(3, .int (((s.f 32) (Int32.toNatClampNeg (s.v 15))) - 266)), (2, .int ((s.f 32) (Int32.toNatClampNeg (s.v 15)))), (0, .ref (a 28)), (1, .int x1)]) hx hb dX4_readUnit_18 rfl hl (by decide) rfl (fun ls hl => ?_)
  refine lv_aload_n hx hb dX4_readUnit_19 rfl (lv_at hl 2 rfl) ?_
  refine lv_sipush (v := 301) hx hb dX4_readUnit_20 (by decide) ?_
  obtain ⟨q_, s2, hc, hB⟩ := bindI_inv hB
  refine q_goiF (va_runV (As := [.int 301]) (rest := []) C (ckX4_isAt hc _) (cwV 1 hts gX4_readUnit_X4_isAt rfl rfl rfl (by decide +kernel) ⟨by dsimp only; omega, by dsimp only; omega⟩) (q_preV hK hP (ci := 4) (q0 := 28) rfl rfl rfl (q_preF hN hK hP hD)) rfl rfl hl.1 rfl (lv_room (Nat.le_of_ble_eq_true rfl)) dX4_readUnit_23 ⟨Nat.le_of_ble_eq_true rfl, Nat.le_of_ble_eq_true rfl⟩) hD hS hA (fun r3 w1 H locs hw hP hD hS => ?_)
  obtain ⟨hq_, hw⟩ := hw; subst hw; subst hq_
  refine lv_if_eq (tgt := 62) hx hb dX4_readUnit_26 (by decide) (fun c4 => ?_) (fun c4 => ?_)
  · have hB := if_p hB c4
    refine lv_iload_n hx hb dX4_readUnit_62 rfl (lv_at hl 0 rfl) ?_
    refine lv_if_lt (tgt := 91) hx hb dX4_readUnit_63 (by decide) (fun c5 => ?_) (fun c5 => ?_)
    · have hB := if_p hB c5
      exact bkX4_readUnit_91 hR hfr hlo _ _ hB p e s0 m below meth c A E H locs ls hP hD hS (lv_sub hl [2, 3] rfl)
    · have hB := if_n hB c5
      refine lv_iload_n hx hb dX4_readUnit_66 rfl (lv_at hl 0 rfl) ?_
      refine lv_bipush (v := 9) hx hb dX4_readUnit_67 (by decide) ?_
      refine lv_icmp_ge (tgt := 91) hx hb dX4_readUnit_69 (by decide) (fun c6 => ?_) (fun c6 => ?_)
      · have hB := if_p hB c6
        exact bkX4_readUnit_91 hR hfr hlo _ _ hB p e s0 m below meth c A E H locs ls hP hD hS (lv_sub hl [2, 3] rfl)
      · have hB := if_n hB c6
        refine lv_aload_n hx hb dX4_readUnit_72 rfl (lv_at hl 2 rfl) ?_
        refine q_get (v := .ref (a 15)) C inX4_readUnit_X4 hK hP 28 rfl rfl 1 (by decide) rfl LX4_readUnit_12 rfl dX4_readUnit_73 ?_
        refine q_getN (v := .ref (a 21)) C hN inX4_readUnit_X5 hK hP 15 rfl rfl 5 (by decide) rfl nwF_X4_119 rfl dX4_readUnit_76 ?_
        refine lv_iload_n hx hb dX4_readUnit_79 rfl (lv_at hl 0 rfl) ?_
        obtain ⟨s7, hc, hB⟩ := bindP_inv hB
        refine q_govF (va_runVN (As := [.int (((s.f 32) (Int32.toNatClampNeg (s.v 15))) - 266)]) (rest := []) C (ckX1_putVar hc _) ⟨va_cnB 1 hts gX4_readUnit_X1_putVar_n149 rfl rfl rfl (hN _ nwM_X4_149 rfl) (hts _ LX4_readUnit_I_X1) (by decide +kernel) ⟨by dsimp only; omega, by dsimp only; omega⟩, hts _ LX4_readUnit_N_X1_putVar, hts _ LX4_readUnit_E_X1_putVar⟩ (q_preV hK hP (ci := 1) (q0 := 21) rfl rfl rfl (q_preF hN hK hP hD)) rfl rfl hl.1 rfl (lv_room (Nat.le_of_ble_eq_true rfl)) dX4_readUnit_80 ⟨Nat.le_of_ble_eq_true rfl, Nat.le_of_ble_eq_true rfl⟩) hD hS hA (fun w1 H locs hw hP hD hS => ?_)
        subst hw
        refine lv_aload_n hx hb dX4_readUnit_83 rfl (lv_at hl 2 rfl) ?_
        refine lv_iload_n hx hb dX4_readUnit_84 rfl (lv_at hl 1 rfl) ?_
        obtain ⟨s8, hc, hB⟩ := bindP_inv hB
        refine q_govF (va_runV (As := [.int ((s.f 32) (Int32.toNatClampNeg (s.v 15)))]) (rest := []) C (ckX4_take hc _) (cwV 1 hts gX4_readUnit_X4_take rfl rfl rfl (by decide +kernel) ⟨by dsimp only; omega, by dsimp only; omega⟩) (q_preV hK hP (ci := 4) (q0 := 28) rfl rfl rfl (q_preF hN hK hP hD)) rfl rfl hl.1 rfl (lv_room (Nat.le_of_ble_eq_true rfl)) dX4_readUnit_85 ⟨Nat.le_of_ble_eq_true rfl, Nat.le_of_ble_eq_true rfl⟩) hD hS hA (fun w1 H locs hw hP hD hS => ?_)
        subst hw
        refine lv_goto (tgt := 150) hx hb dX4_readUnit_88 (by decide) ?_
        exact q_vret C hr hlocks hK hP hD hS (Nat.le_of_ble_eq_true rfl) (Nat.le_of_ble_eq_true rfl) dX4_readUnit_150 (by cases hB; rfl)
  · have hB := if_n hB c4
    refine lv_aload_n hx hb dX4_readUnit_29 rfl (lv_at hl 2 rfl) ?_
    refine q_get (v := .ref (a 15)) C inX4_readUnit_X4 hK hP 28 rfl rfl 1 (by decide) rfl LX4_readUnit_12 rfl dX4_readUnit_30 ?_
    refine q_getN (v := .ref (a 21)) C hN inX4_readUnit_X5 hK hP 15 rfl rfl 5 (by decide) rfl nwF_X4_119 rfl dX4_readUnit_33 ?_
    refine lv_aload_n hx hb dX4_readUnit_36 rfl (lv_at hl 2 rfl) ?_
    refine q_get (v := .ref (a 30)) C inX4_readUnit_X4 hK hP 28 rfl rfl 0 (by decide) rfl LX4_readUnit_31 rfl dX4_readUnit_37 ?_
    refine q_getN (v := .ref (a 34)) C hN inX4_readUnit_X9 hK hP 30 rfl rfl 4 (by decide) rfl nwF_X4_74 rfl dX4_readUnit_40 ?_
    refine lv_aload_n hx hb dX4_readUnit_43 rfl (lv_at hl 2 rfl) ?_
    refine q_get (v := .int (s2.v 15)) C inX4_readUnit_X4 hK hP 28 rfl rfl 3 (by decide) rfl LX4_readUnit_38 rfl dX4_readUnit_44 ?_
    obtain ⟨g9, hB⟩ := guard_inv hB
    refine q_lald (x := ((s2.g 34) (Int32.toNatClampNeg (s2.v 15)))) C hK hP 34 2 rfl rfl (vpb_in g9) dX4_readUnit_47 rfl ?_
    refine lv_l2i (v := (Int64.toInt32 ((s2.g 34) (Int32.toNatClampNeg (s2.v 15))))) hx hb dX4_readUnit_48 rfl ?_
    obtain ⟨s10, hc, hB⟩ := bindP_inv hB
    refine q_govF (va_runVN (As := [.int (Int64.toInt32 ((s2.g 34) (Int32.toNatClampNeg (s2.v 15))))]) (rest := []) C (ckX1_putNumber hc _) ⟨va_cnB 1 hts gX4_readUnit_X1_putNumber_n146 rfl rfl rfl (hN _ nwM_X4_146 rfl) (hts _ LX4_readUnit_I_X1) (by decide +kernel) ⟨by dsimp only; omega, by dsimp only; omega⟩, hts _ LX4_readUnit_N_X1_putNumber, hts _ LX4_readUnit_E_X1_putNumber⟩ (q_preV hK hP (ci := 1) (q0 := 21) rfl rfl rfl (q_preF hN hK hP hD)) rfl rfl hl.1 rfl (lv_room (Nat.le_of_ble_eq_true rfl)) dX4_readUnit_49 ⟨Nat.le_of_ble_eq_true rfl, Nat.le_of_ble_eq_true rfl⟩) hD hS hA (fun w1 H locs hw hP hD hS => ?_)
    subst hw
    refine lv_aload_n hx hb dX4_readUnit_52 rfl (lv_at hl 2 rfl) ?_
    refine lv_sipush (v := 301) hx hb dX4_readUnit_53 (by decide) ?_
    obtain ⟨s11, hc, hB⟩ := bindP_inv hB
    refine q_govF (va_runV (As := [.int 301]) (rest := []) C (ckX4_take hc _) (cwV 1 hts gX4_readUnit_X4_take rfl rfl rfl (by decide +kernel) ⟨by dsimp only; omega, by dsimp only; omega⟩) (q_preV hK hP (ci := 4) (q0 := 28) rfl rfl rfl (q_preF hN hK hP hD)) rfl rfl hl.1 rfl (lv_room (Nat.le_of_ble_eq_true rfl)) dX4_readUnit_56 ⟨Nat.le_of_ble_eq_true rfl, Nat.le_of_ble_eq_true rfl⟩) hD hS hA (fun w1 H locs hw hP hD hS => ?_)
    subst hw
    refine lv_goto (tgt := 150) hx hb dX4_readUnit_59 (by decide) ?_
    exact q_vret C hr hlocks hK hP hD hS (Nat.le_of_ble_eq_true rfl) (Nat.le_of_ble_eq_true rfl) dX4_readUnit_150 (by cases hB; rfl)
theorem ckX4_readUnit {l : Launch} {dC : Nat → ClassId} {dI : Nat → Nat → Nat} {cB cI cJ cZ cS : ClassId} {a : Nat → Nat} {R : KS → Int32 → Option KS} {fr lo : Nat} (hR : ∀ {s : KS} {x1 : Int32} {s' : KS}, R s x1 = some s' → CV l yX4_readSum wsX4_readSum ({ frames := fr, cells := 0, slots := 0, locals := lo }) (dC, dI) (tysA cB cI cJ cZ cS) (wK cB cI cJ cZ cS a s) [.ref (a 28), .int x1] (fun u => u = wK cB cI cJ cZ cS a s')) (hfr : 2 ≤ fr) (hlo : 42 ≤ lo) {s' : KS} {s : KS} {x1 : Int32} (hB : kX4_readUnit R s x1 = some s') : CV l yX4_readUnit wsX4_readUnit ({ frames := fr + 1, cells := 0, slots := 0, locals := lo + 23 }) (dC, dI) (tysA cB cI cJ cZ cS) (wK cB cI cJ cZ cS a s) [.ref (a 28), .int x1] (fun u => u = (wK cB cI cJ cZ cS a s')) :=
  CV_of (cc := cX4_readUnit) (maxL := 4) (ret := none) (by decide) rfl (Nat.le_of_ble_eq_true rfl) (bkX4_readUnit hR hfr hlo _ _ hB)
theorem LX4_readProduct_12 : Cond.fieldLink RX4 12 "GuessFerry$Reader" "draft" "LGuessFerry$Sound;" ∈ wsX4_readProduct := by decide +kernel
theorem LX4_readProduct_31 : Cond.fieldLink RX4 31 "GuessFerry$Reader" "tokens" "LGuessFerry$Tokens;" ∈ wsX4_readProduct := by decide +kernel
theorem LX4_readProduct_38 : Cond.fieldLink RX4 38 "GuessFerry$Reader" "at" "I" ∈ wsX4_readProduct := by decide +kernel
theorem LX4_readProduct_E_X1_putSign : Cond.selects RX1 yX1_putSign yX1_putSign ∈ wsX4_readProduct := by decide +kernel
theorem LX4_readProduct_I_X1 : Cond.initialized RX1 ∈ wsX4_readProduct := by decide +kernel
theorem LX4_readProduct_N_X1_putSign : Cond.instanceMethod yX1_putSign ∈ wsX4_readProduct := by decide +kernel
theorem inX4_readProduct_X4 : ∀ w ∈ u_ws RX4 TX4 8, w ∈ wsX4_readProduct := by decide +kernel
theorem inX4_readProduct_X5 : ∀ w ∈ u_ws RX5 TX5 10, w ∈ wsX4_readProduct := by decide +kernel
theorem inX4_readProduct_X9 : ∀ w ∈ u_ws RX9 TX9 7, w ∈ wsX4_readProduct := by decide +kernel
set_option maxHeartbeats 4000000 in
set_option maxRecDepth 100000 in
theorem bkX4_readProduct_32 {l : Launch} {dC : Nat → ClassId} {dI : Nat → Nat → Nat} {cB cI cJ cZ cS : ClassId} {a : Nat → Nat} {R : KS → Int32 → Option KS} {fr lo : Nat} (hR : ∀ {s : KS} {x1 : Int32} {s' : KS}, R s x1 = some s' → CV l yX4_readSum wsX4_readSum ({ frames := fr, cells := 0, slots := 0, locals := lo }) (dC, dI) (tysA cB cI cJ cZ cS) (wK cB cI cJ cZ cS a s) [.ref (a 28), .int x1] (fun u => u = wK cB cI cJ cZ cS a s')) (hfr : 2 ≤ fr) (hlo : 42 ≤ lo) {as : List Value} {s' : KS} {k7 : KS → Int32 → Int32 → Option KS} (hk7 : ∀ (s : KS) (x1 : Int32) (x2 : Int32), k7 s x1 x2 = some s' → BlkV l yX4_readProduct wsX4_readProduct ({ frames := fr + 2, cells := 0, slots := 0, locals := lo + 46 }) cX4_readProduct 4 none (dC, dI) (tysA cB cI cJ cZ cS) as 7 (wK cB cI cJ cZ cS a s) [(0, .ref (a 28)), (1, .int x1), (2, .int x2)] [] (fun u => u = (wK cB cI cJ cZ cS a s'))) (s : KS) (x1 : Int32) (x2 : Int32) (hB : kX4_readProduct_32 R k7 s x1 x2 = some s') : BlkV l yX4_readProduct wsX4_readProduct ({ frames := fr + 2, cells := 0, slots := 0, locals := lo + 46 }) cX4_readProduct 4 none (dC, dI) (tysA cB cI cJ cZ cS) as 32 (wK cB cI cJ cZ cS a s) [(0, .ref (a 28)), (1, .int x1), (2, .int x2)] [] (fun u => u = (wK cB cI cJ cZ cS a s')) := by
  intro p e s0 m below meth c A E H locs ls hP hD hS hl
  obtain ⟨C, hr, hlocks, hA, hK, hN⟩ := id E
  obtain ⟨hx, hb, hml, hown, hts⟩ := id C
  unfold kX4_readProduct_32 at hB
  refine lv_aload_n hx hb dX4_readProduct_32 rfl (lv_at hl 0 rfl) ?_
  refine q_get (v := .ref (a 30)) C inX4_readProduct_X4 hK hP 28 rfl rfl 0 (by decide) rfl LX4_readProduct_31 rfl dX4_readProduct_33 ?_
  refine q_getN (v := .ref (a 32)) C hN inX4_readProduct_X9 hK hP 30 rfl rfl 2 (by decide) rfl nwF_X4_63 rfl dX4_readProduct_36 ?_
  refine lv_aload_n hx hb dX4_readProduct_39 rfl (lv_at hl 0 rfl) ?_
  refine q_get (v := .int (s.v 15)) C inX4_readProduct_X4 hK hP 28 rfl rfl 3 (by decide) rfl LX4_readProduct_38 rfl dX4_readProduct_40 ?_
  obtain ⟨g1, hB⟩ := guard_inv hB
  refine q_iald (x := ((s.f 32) (Int32.toNatClampNeg (s.v 15)))) C hK hP 32 1 rfl rfl (vpb_in g1) dX4_readProduct_43 rfl ?_
  refine lv_istore_n (lv' := [(3, .int ((s.f 32) (Int32.toNatClampNeg (s.v 15)))), (0, .ref (a 28)), (1, .int x1), (2, .int x2)]) hx hb dX4_readProduct_44 rfl hl (by decide) rfl (fun ls hl => ?_)
  refine lv_aload_n hx hb dX4_readProduct_45 rfl (lv_at hl 1 rfl) ?_
  refine lv_iload_n hx hb dX4_readProduct_46 rfl (lv_at hl 0 rfl) ?_
  obtain ⟨s2, hc, hB⟩ := bindP_inv hB
  refine q_govF (va_runV (As := [.int ((s.f 32) (Int32.toNatClampNeg (s.v 15)))]) (rest := []) C (ckX4_take hc _) (cwV 1 hts gX4_readProduct_X4_take rfl rfl rfl (by decide +kernel) ⟨by dsimp only; omega, by dsimp only; omega⟩) (q_preV hK hP (ci := 4) (q0 := 28) rfl rfl rfl (q_preF hN hK hP hD)) rfl rfl hl.1 rfl (lv_room (Nat.le_of_ble_eq_true rfl)) dX4_readProduct_47 ⟨Nat.le_of_ble_eq_true rfl, Nat.le_of_ble_eq_true rfl⟩) hD hS hA (fun w1 H locs hw hP hD hS => ?_)
  subst hw
  refine lv_aload_n hx hb dX4_readProduct_50 rfl (lv_at hl 1 rfl) ?_
  refine lv_iload_n hx hb dX4_readProduct_51 rfl (lv_at hl 2 rfl) ?_
  obtain ⟨s3, hc, hB⟩ := bindP_inv hB
  refine q_govF (va_runV (As := [.int x1]) (rest := []) C (ckX4_readUnit hR (by omega) (by omega) hc _) (cwV 1 hts gX4_readProduct_X4_readUnit rfl rfl rfl (by decide +kernel) ⟨by dsimp only; omega, by dsimp only; omega⟩) (q_preV hK hP (ci := 4) (q0 := 28) rfl rfl rfl (q_preF hN hK hP hD)) rfl rfl hl.1 rfl (lv_room (Nat.le_of_ble_eq_true rfl)) dX4_readProduct_52 ⟨Nat.le_of_ble_eq_true rfl, Nat.le_of_ble_eq_true rfl⟩) hD hS hA (fun w1 H locs hw hP hD hS => ?_)
  subst hw
  refine lv_aload_n hx hb dX4_readProduct_55 rfl (lv_at hl 1 rfl) ?_
  refine q_get (v := .ref (a 15)) C inX4_readProduct_X4 hK hP 28 rfl rfl 1 (by decide) rfl LX4_readProduct_12 rfl dX4_readProduct_56 ?_
  refine q_getN (v := .ref (a 21)) C hN inX4_readProduct_X5 hK hP 15 rfl rfl 5 (by decide) rfl nwF_X4_119 rfl dX4_readProduct_59 ?_
  refine lv_iload_n hx hb dX4_readProduct_62 rfl (lv_at hl 0 rfl) ?_
  obtain ⟨s4, hc, hB⟩ := bindP_inv hB
  refine q_govF (va_runVN (As := [.int ((s.f 32) (Int32.toNatClampNeg (s.v 15)))]) (rest := []) C (ckX1_putSign hc _) ⟨va_cnB 1 hts gX4_readProduct_X1_putSign_n140 rfl rfl rfl (hN _ nwM_X4_140 rfl) (hts _ LX4_readProduct_I_X1) (by decide +kernel) ⟨by dsimp only; omega, by dsimp only; omega⟩, hts _ LX4_readProduct_N_X1_putSign, hts _ LX4_readProduct_E_X1_putSign⟩ (q_preV hK hP (ci := 1) (q0 := 21) rfl rfl rfl (q_preF hN hK hP hD)) rfl rfl hl.1 rfl (lv_room (Nat.le_of_ble_eq_true rfl)) dX4_readProduct_63 ⟨Nat.le_of_ble_eq_true rfl, Nat.le_of_ble_eq_true rfl⟩) hD hS hA (fun w1 H locs hw hP hD hS => ?_)
  subst hw
  refine lv_iinc (v := (x2 + 1)) (lv' := [(2, .int (x2 + 1)), (3, .int ((s.f 32) (Int32.toNatClampNeg (s.v 15)))), (0, .ref (a 28)), (1, .int x1)]) hx hb dX4_readProduct_66 hl (k := 3) rfl (rfl) (by decide) rfl (fun ls hl => ?_)
  refine lv_goto (tgt := 7) hx hb dX4_readProduct_69 (by decide) ?_
  exact hk7 _ _ _ hB p e s0 m below meth c A E H locs ls hP hD hS (lv_sub hl [2, 3, 0] rfl)
set_option maxHeartbeats 4000000 in
set_option maxRecDepth 100000 in
theorem bkX4_readProduct_7 {l : Launch} {dC : Nat → ClassId} {dI : Nat → Nat → Nat} {cB cI cJ cZ cS : ClassId} {a : Nat → Nat} {R : KS → Int32 → Option KS} {fr lo : Nat} (hR : ∀ {s : KS} {x1 : Int32} {s' : KS}, R s x1 = some s' → CV l yX4_readSum wsX4_readSum ({ frames := fr, cells := 0, slots := 0, locals := lo }) (dC, dI) (tysA cB cI cJ cZ cS) (wK cB cI cJ cZ cS a s) [.ref (a 28), .int x1] (fun u => u = wK cB cI cJ cZ cS a s')) (hfr : 2 ≤ fr) (hlo : 42 ≤ lo) {as : List Value} {s' : KS} {k7 : KS → Int32 → Int32 → Option KS} (hk7 : ∀ (s : KS) (x1 : Int32) (x2 : Int32), k7 s x1 x2 = some s' → BlkV l yX4_readProduct wsX4_readProduct ({ frames := fr + 2, cells := 0, slots := 0, locals := lo + 46 }) cX4_readProduct 4 none (dC, dI) (tysA cB cI cJ cZ cS) as 7 (wK cB cI cJ cZ cS a s) [(0, .ref (a 28)), (1, .int x1), (2, .int x2)] [] (fun u => u = (wK cB cI cJ cZ cS a s'))) (s : KS) (x1 : Int32) (x2 : Int32) (hB : kX4_readProduct_7 R k7 s x1 x2 = some s') : BlkV l yX4_readProduct wsX4_readProduct ({ frames := fr + 2, cells := 0, slots := 0, locals := lo + 46 }) cX4_readProduct 4 none (dC, dI) (tysA cB cI cJ cZ cS) as 7 (wK cB cI cJ cZ cS a s) [(0, .ref (a 28)), (1, .int x1), (2, .int x2)] [] (fun u => u = (wK cB cI cJ cZ cS a s')) := by
  intro p e s0 m below meth c A E H locs ls hP hD hS hl
  obtain ⟨C, hr, hlocks, hA, hK, hN⟩ := id E
  obtain ⟨hx, hb, hml, hown, hts⟩ := id C
  unfold kX4_readProduct_7 at hB
  refine lv_iload_n hx hb dX4_readProduct_7 rfl (lv_at hl 2 rfl) ?_
  refine lv_sipush (v := 400) hx hb dX4_readProduct_8 (by decide) ?_
  refine lv_icmp_ge (tgt := 72) hx hb dX4_readProduct_11 (by decide) (fun c1 => ?_) (fun c1 => ?_)
  · have hB := if_p hB c1
    exact q_vret C hr hlocks hK hP hD hS (Nat.le_of_ble_eq_true rfl) (Nat.le_of_ble_eq_true rfl) dX4_readProduct_72 (by cases hB; rfl)
  · have hB := if_n hB c1
    refine lv_aload_n hx hb dX4_readProduct_14 rfl (lv_at hl 0 rfl) ?_
    refine lv_bipush (v := 42) hx hb dX4_readProduct_15 (by decide) ?_
    obtain ⟨q_, s2, hc, hB⟩ := bindI_inv hB
    refine q_goiF (va_runV (As := [.int 42]) (rest := []) C (ckX4_isAt hc _) (cwV 1 hts gX4_readProduct_X4_isAt rfl rfl rfl (by decide +kernel) ⟨by dsimp only; omega, by dsimp only; omega⟩) (q_preV hK hP (ci := 4) (q0 := 28) rfl rfl rfl (q_preF hN hK hP hD)) rfl rfl hl.1 rfl (lv_room (Nat.le_of_ble_eq_true rfl)) dX4_readProduct_17 ⟨Nat.le_of_ble_eq_true rfl, Nat.le_of_ble_eq_true rfl⟩) hD hS hA (fun r3 w1 H locs hw hP hD hS => ?_)
    obtain ⟨hq_, hw⟩ := hw; subst hw; subst hq_
    refine lv_if_ne (tgt := 32) hx hb dX4_readProduct_20 (by decide) (fun c4 => ?_) (fun c4 => ?_)
    · have hB := if_n hB c4
      exact bkX4_readProduct_32 hR hfr hlo (hk7) _ _ _ hB p e s0 m below meth c A E H locs ls hP hD hS (lv_sub hl [0, 1, 2] rfl)
    · have hB := if_p hB c4
      refine lv_aload_n hx hb dX4_readProduct_23 rfl (lv_at hl 0 rfl) ?_
      refine lv_bipush (v := 47) hx hb dX4_readProduct_24 (by decide) ?_
      obtain ⟨q_, s5, hc, hB⟩ := bindI_inv hB
      refine q_goiF (va_runV (As := [.int 47]) (rest := []) C (ckX4_isAt hc _) (cwV 1 hts gX4_readProduct_X4_isAt rfl rfl rfl (by decide +kernel) ⟨by dsimp only; omega, by dsimp only; omega⟩) (q_preV hK hP (ci := 4) (q0 := 28) rfl rfl rfl (q_preF hN hK hP hD)) rfl rfl hl.1 rfl (lv_room (Nat.le_of_ble_eq_true rfl)) dX4_readProduct_26 ⟨Nat.le_of_ble_eq_true rfl, Nat.le_of_ble_eq_true rfl⟩) hD hS hA (fun r6 w1 H locs hw hP hD hS => ?_)
      obtain ⟨hq_, hw⟩ := hw; subst hw; subst hq_
      refine lv_if_eq (tgt := 72) hx hb dX4_readProduct_29 (by decide) (fun c7 => ?_) (fun c7 => ?_)
      · have hB := if_p hB c7
        exact q_vret C hr hlocks hK hP hD hS (Nat.le_of_ble_eq_true rfl) (Nat.le_of_ble_eq_true rfl) dX4_readProduct_72 (by cases hB; rfl)
      · have hB := if_n hB c7
        exact bkX4_readProduct_32 hR hfr hlo (hk7) _ _ _ hB p e s0 m below meth c A E H locs ls hP hD hS (lv_sub hl [0, 1, 2] rfl)
theorem bkX4_readProduct_7L {l : Launch} {dC : Nat → ClassId} {dI : Nat → Nat → Nat} {cB cI cJ cZ cS : ClassId} {a : Nat → Nat} {R : KS → Int32 → Option KS} {fr lo : Nat} (hR : ∀ {s : KS} {x1 : Int32} {s' : KS}, R s x1 = some s' → CV l yX4_readSum wsX4_readSum ({ frames := fr, cells := 0, slots := 0, locals := lo }) (dC, dI) (tysA cB cI cJ cZ cS) (wK cB cI cJ cZ cS a s) [.ref (a 28), .int x1] (fun u => u = wK cB cI cJ cZ cS a s')) (hfr : 2 ≤ fr) (hlo : 42 ≤ lo) {as : List Value} {s' : KS} : ∀ (n : Nat) (s : KS) (x1 : Int32) (x2 : Int32), kX4_readProduct_7L R n s x1 x2 = some s' → BlkV l yX4_readProduct wsX4_readProduct ({ frames := fr + 2, cells := 0, slots := 0, locals := lo + 46 }) cX4_readProduct 4 none (dC, dI) (tysA cB cI cJ cZ cS) as 7 (wK cB cI cJ cZ cS a s) [(0, .ref (a 28)), (1, .int x1), (2, .int x2)] [] (fun u => u = (wK cB cI cJ cZ cS a s')) := by
  intro n
  induction n with
  | zero => intro s x1 x2 hB; exact none_ne hB
  | succ n ih => intro s x1 x2 hB; exact bkX4_readProduct_7 hR hfr hlo ih _ _ _ hB
set_option maxHeartbeats 4000000 in
set_option maxRecDepth 100000 in
theorem bkX4_readProduct {l : Launch} {dC : Nat → ClassId} {dI : Nat → Nat → Nat} {cB cI cJ cZ cS : ClassId} {a : Nat → Nat} {R : KS → Int32 → Option KS} {fr lo : Nat} (hR : ∀ {s : KS} {x1 : Int32} {s' : KS}, R s x1 = some s' → CV l yX4_readSum wsX4_readSum ({ frames := fr, cells := 0, slots := 0, locals := lo }) (dC, dI) (tysA cB cI cJ cZ cS) (wK cB cI cJ cZ cS a s) [.ref (a 28), .int x1] (fun u => u = wK cB cI cJ cZ cS a s')) (hfr : 2 ≤ fr) (hlo : 42 ≤ lo) {as : List Value} {s' : KS} (s : KS) (x1 : Int32) (hB : kX4_readProduct R s x1 = some s') : BlkV l yX4_readProduct wsX4_readProduct ({ frames := fr + 2, cells := 0, slots := 0, locals := lo + 46 }) cX4_readProduct 4 none (dC, dI) (tysA cB cI cJ cZ cS) as 0 (wK cB cI cJ cZ cS a s) [(0, .ref (a 28)), (1, .int x1)] [] (fun u => u = (wK cB cI cJ cZ cS a s')) := by
  intro p e s0 m below meth c A E H locs ls hP hD hS hl
  obtain ⟨C, hr, hlocks, hA, hK, hN⟩ := id E
  obtain ⟨hx, hb, hml, hown, hts⟩ := id C
  unfold kX4_readProduct at hB
  refine lv_aload_n hx hb dX4_readProduct_0 rfl (lv_at hl 0 rfl) ?_
  refine lv_iload_n hx hb dX4_readProduct_1 rfl (lv_at hl 1 rfl) ?_
  obtain ⟨s1, hc, hB⟩ := bindP_inv hB
  refine q_govF (va_runV (As := [.int x1]) (rest := []) C (ckX4_readUnit hR (by omega) (by omega) hc _) (cwV 1 hts gX4_readProduct_X4_readUnit rfl rfl rfl (by decide +kernel) ⟨by dsimp only; omega, by dsimp only; omega⟩) (q_preV hK hP (ci := 4) (q0 := 28) rfl rfl rfl (q_preF hN hK hP hD)) rfl rfl hl.1 rfl (lv_room (Nat.le_of_ble_eq_true rfl)) dX4_readProduct_2 ⟨Nat.le_of_ble_eq_true rfl, Nat.le_of_ble_eq_true rfl⟩) hD hS hA (fun w1 H locs hw hP hD hS => ?_)
  subst hw
  refine lv_iconst (v := 0) hx hb dX4_readProduct_5 (by decide) ?_
  refine lv_istore_n (lv' := [(2, .int 0), (0, .ref (a 28)), (1, .int x1)]) hx hb dX4_readProduct_6 rfl hl (by decide) rfl (fun ls hl => ?_)
  exact bkX4_readProduct_7L hR hfr hlo fu _ _ _ hB p e s0 m below meth c A E H locs ls hP hD hS (lv_sub hl [1, 2, 0] rfl)
theorem ckX4_readProduct {l : Launch} {dC : Nat → ClassId} {dI : Nat → Nat → Nat} {cB cI cJ cZ cS : ClassId} {a : Nat → Nat} {R : KS → Int32 → Option KS} {fr lo : Nat} (hR : ∀ {s : KS} {x1 : Int32} {s' : KS}, R s x1 = some s' → CV l yX4_readSum wsX4_readSum ({ frames := fr, cells := 0, slots := 0, locals := lo }) (dC, dI) (tysA cB cI cJ cZ cS) (wK cB cI cJ cZ cS a s) [.ref (a 28), .int x1] (fun u => u = wK cB cI cJ cZ cS a s')) (hfr : 2 ≤ fr) (hlo : 42 ≤ lo) {s' : KS} {s : KS} {x1 : Int32} (hB : kX4_readProduct R s x1 = some s') : CV l yX4_readProduct wsX4_readProduct ({ frames := fr + 2, cells := 0, slots := 0, locals := lo + 46 }) (dC, dI) (tysA cB cI cJ cZ cS) (wK cB cI cJ cZ cS a s) [.ref (a 28), .int x1] (fun u => u = (wK cB cI cJ cZ cS a s')) :=
  CV_of (cc := cX4_readProduct) (maxL := 4) (ret := none) (by decide) rfl (Nat.le_of_ble_eq_true rfl) (bkX4_readProduct hR hfr hlo _ _ hB)
theorem LX4_readSum_12 : Cond.fieldLink RX4 12 "GuessFerry$Reader" "draft" "LGuessFerry$Sound;" ∈ wsX4_readSum := by decide +kernel
theorem LX4_readSum_31 : Cond.fieldLink RX4 31 "GuessFerry$Reader" "tokens" "LGuessFerry$Tokens;" ∈ wsX4_readSum := by decide +kernel
theorem LX4_readSum_38 : Cond.fieldLink RX4 38 "GuessFerry$Reader" "at" "I" ∈ wsX4_readSum := by decide +kernel
theorem LX4_readSum_E_X1_putSign : Cond.selects RX1 yX1_putSign yX1_putSign ∈ wsX4_readSum := by decide +kernel
theorem LX4_readSum_I_X1 : Cond.initialized RX1 ∈ wsX4_readSum := by decide +kernel
theorem LX4_readSum_N_X1_putSign : Cond.instanceMethod yX1_putSign ∈ wsX4_readSum := by decide +kernel
theorem inX4_readSum_X4 : ∀ w ∈ u_ws RX4 TX4 8, w ∈ wsX4_readSum := by decide +kernel
theorem inX4_readSum_X5 : ∀ w ∈ u_ws RX5 TX5 10, w ∈ wsX4_readSum := by decide +kernel
theorem inX4_readSum_X9 : ∀ w ∈ u_ws RX9 TX9 7, w ∈ wsX4_readSum := by decide +kernel
set_option maxHeartbeats 4000000 in
set_option maxRecDepth 100000 in
theorem bkX4_readSum_32 {l : Launch} {dC : Nat → ClassId} {dI : Nat → Nat → Nat} {cB cI cJ cZ cS : ClassId} {a : Nat → Nat} {R : KS → Int32 → Option KS} {fr lo : Nat} (hR : ∀ {s : KS} {x1 : Int32} {s' : KS}, R s x1 = some s' → CV l yX4_readSum wsX4_readSum ({ frames := fr, cells := 0, slots := 0, locals := lo }) (dC, dI) (tysA cB cI cJ cZ cS) (wK cB cI cJ cZ cS a s) [.ref (a 28), .int x1] (fun u => u = wK cB cI cJ cZ cS a s')) (hfr : 2 ≤ fr) (hlo : 42 ≤ lo) {as : List Value} {s' : KS} {k7 : KS → Int32 → Int32 → Option KS} (hk7 : ∀ (s : KS) (x1 : Int32) (x2 : Int32), k7 s x1 x2 = some s' → BlkV l yX4_readSum wsX4_readSum ({ frames := fr + 3, cells := 0, slots := 0, locals := lo + 69 }) cX4_readSum 4 none (dC, dI) (tysA cB cI cJ cZ cS) as 7 (wK cB cI cJ cZ cS a s) [(0, .ref (a 28)), (1, .int x1), (2, .int x2)] [] (fun u => u = (wK cB cI cJ cZ cS a s'))) (s : KS) (x1 : Int32) (x2 : Int32) (hB : kX4_readSum_32 R k7 s x1 x2 = some s') : BlkV l yX4_readSum wsX4_readSum ({ frames := fr + 3, cells := 0, slots := 0, locals := lo + 69 }) cX4_readSum 4 none (dC, dI) (tysA cB cI cJ cZ cS) as 32 (wK cB cI cJ cZ cS a s) [(0, .ref (a 28)), (1, .int x1), (2, .int x2)] [] (fun u => u = (wK cB cI cJ cZ cS a s')) := by
  intro p e s0 m below meth c A E H locs ls hP hD hS hl
  obtain ⟨C, hr, hlocks, hA, hK, hN⟩ := id E
  obtain ⟨hx, hb, hml, hown, hts⟩ := id C
  unfold kX4_readSum_32 at hB
  refine lv_aload_n hx hb dX4_readSum_32 rfl (lv_at hl 0 rfl) ?_
  refine q_get (v := .ref (a 30)) C inX4_readSum_X4 hK hP 28 rfl rfl 0 (by decide) rfl LX4_readSum_31 rfl dX4_readSum_33 ?_
  refine q_getN (v := .ref (a 32)) C hN inX4_readSum_X9 hK hP 30 rfl rfl 2 (by decide) rfl nwF_X4_63 rfl dX4_readSum_36 ?_
  refine lv_aload_n hx hb dX4_readSum_39 rfl (lv_at hl 0 rfl) ?_
  refine q_get (v := .int (s.v 15)) C inX4_readSum_X4 hK hP 28 rfl rfl 3 (by decide) rfl LX4_readSum_38 rfl dX4_readSum_40 ?_
  obtain ⟨g1, hB⟩ := guard_inv hB
  refine q_iald (x := ((s.f 32) (Int32.toNatClampNeg (s.v 15)))) C hK hP 32 1 rfl rfl (vpb_in g1) dX4_readSum_43 rfl ?_
  refine lv_istore_n (lv' := [(3, .int ((s.f 32) (Int32.toNatClampNeg (s.v 15)))), (0, .ref (a 28)), (1, .int x1), (2, .int x2)]) hx hb dX4_readSum_44 rfl hl (by decide) rfl (fun ls hl => ?_)
  refine lv_aload_n hx hb dX4_readSum_45 rfl (lv_at hl 1 rfl) ?_
  refine lv_iload_n hx hb dX4_readSum_46 rfl (lv_at hl 0 rfl) ?_
  obtain ⟨s2, hc, hB⟩ := bindP_inv hB
  refine q_govF (va_runV (As := [.int ((s.f 32) (Int32.toNatClampNeg (s.v 15)))]) (rest := []) C (ckX4_take hc _) (cwV 1 hts gX4_readSum_X4_take rfl rfl rfl (by decide +kernel) ⟨by dsimp only; omega, by dsimp only; omega⟩) (q_preV hK hP (ci := 4) (q0 := 28) rfl rfl rfl (q_preF hN hK hP hD)) rfl rfl hl.1 rfl (lv_room (Nat.le_of_ble_eq_true rfl)) dX4_readSum_47 ⟨Nat.le_of_ble_eq_true rfl, Nat.le_of_ble_eq_true rfl⟩) hD hS hA (fun w1 H locs hw hP hD hS => ?_)
  subst hw
  refine lv_aload_n hx hb dX4_readSum_50 rfl (lv_at hl 1 rfl) ?_
  refine lv_iload_n hx hb dX4_readSum_51 rfl (lv_at hl 2 rfl) ?_
  obtain ⟨s3, hc, hB⟩ := bindP_inv hB
  refine q_govF (va_runV (As := [.int x1]) (rest := []) C (ckX4_readProduct hR (by omega) (by omega) hc _) (cwV 1 hts gX4_readSum_X4_readProduct rfl rfl rfl (by decide +kernel) ⟨by dsimp only; omega, by dsimp only; omega⟩) (q_preV hK hP (ci := 4) (q0 := 28) rfl rfl rfl (q_preF hN hK hP hD)) rfl rfl hl.1 rfl (lv_room (Nat.le_of_ble_eq_true rfl)) dX4_readSum_52 ⟨Nat.le_of_ble_eq_true rfl, Nat.le_of_ble_eq_true rfl⟩) hD hS hA (fun w1 H locs hw hP hD hS => ?_)
  subst hw
  refine lv_aload_n hx hb dX4_readSum_55 rfl (lv_at hl 1 rfl) ?_
  refine q_get (v := .ref (a 15)) C inX4_readSum_X4 hK hP 28 rfl rfl 1 (by decide) rfl LX4_readSum_12 rfl dX4_readSum_56 ?_
  refine q_getN (v := .ref (a 21)) C hN inX4_readSum_X5 hK hP 15 rfl rfl 5 (by decide) rfl nwF_X4_119 rfl dX4_readSum_59 ?_
  refine lv_iload_n hx hb dX4_readSum_62 rfl (lv_at hl 0 rfl) ?_
  obtain ⟨s4, hc, hB⟩ := bindP_inv hB
  refine q_govF (va_runVN (As := [.int ((s.f 32) (Int32.toNatClampNeg (s.v 15)))]) (rest := []) C (ckX1_putSign hc _) ⟨va_cnB 1 hts gX4_readSum_X1_putSign_n140 rfl rfl rfl (hN _ nwM_X4_140 rfl) (hts _ LX4_readSum_I_X1) (by decide +kernel) ⟨by dsimp only; omega, by dsimp only; omega⟩, hts _ LX4_readSum_N_X1_putSign, hts _ LX4_readSum_E_X1_putSign⟩ (q_preV hK hP (ci := 1) (q0 := 21) rfl rfl rfl (q_preF hN hK hP hD)) rfl rfl hl.1 rfl (lv_room (Nat.le_of_ble_eq_true rfl)) dX4_readSum_63 ⟨Nat.le_of_ble_eq_true rfl, Nat.le_of_ble_eq_true rfl⟩) hD hS hA (fun w1 H locs hw hP hD hS => ?_)
  subst hw
  refine lv_iinc (v := (x2 + 1)) (lv' := [(2, .int (x2 + 1)), (3, .int ((s.f 32) (Int32.toNatClampNeg (s.v 15)))), (0, .ref (a 28)), (1, .int x1)]) hx hb dX4_readSum_66 hl (k := 3) rfl (rfl) (by decide) rfl (fun ls hl => ?_)
  refine lv_goto (tgt := 7) hx hb dX4_readSum_69 (by decide) ?_
  exact hk7 _ _ _ hB p e s0 m below meth c A E H locs ls hP hD hS (lv_sub hl [2, 3, 0] rfl)
set_option maxHeartbeats 4000000 in
set_option maxRecDepth 100000 in
theorem bkX4_readSum_7 {l : Launch} {dC : Nat → ClassId} {dI : Nat → Nat → Nat} {cB cI cJ cZ cS : ClassId} {a : Nat → Nat} {R : KS → Int32 → Option KS} {fr lo : Nat} (hR : ∀ {s : KS} {x1 : Int32} {s' : KS}, R s x1 = some s' → CV l yX4_readSum wsX4_readSum ({ frames := fr, cells := 0, slots := 0, locals := lo }) (dC, dI) (tysA cB cI cJ cZ cS) (wK cB cI cJ cZ cS a s) [.ref (a 28), .int x1] (fun u => u = wK cB cI cJ cZ cS a s')) (hfr : 2 ≤ fr) (hlo : 42 ≤ lo) {as : List Value} {s' : KS} {k7 : KS → Int32 → Int32 → Option KS} (hk7 : ∀ (s : KS) (x1 : Int32) (x2 : Int32), k7 s x1 x2 = some s' → BlkV l yX4_readSum wsX4_readSum ({ frames := fr + 3, cells := 0, slots := 0, locals := lo + 69 }) cX4_readSum 4 none (dC, dI) (tysA cB cI cJ cZ cS) as 7 (wK cB cI cJ cZ cS a s) [(0, .ref (a 28)), (1, .int x1), (2, .int x2)] [] (fun u => u = (wK cB cI cJ cZ cS a s'))) (s : KS) (x1 : Int32) (x2 : Int32) (hB : kX4_readSum_7 R k7 s x1 x2 = some s') : BlkV l yX4_readSum wsX4_readSum ({ frames := fr + 3, cells := 0, slots := 0, locals := lo + 69 }) cX4_readSum 4 none (dC, dI) (tysA cB cI cJ cZ cS) as 7 (wK cB cI cJ cZ cS a s) [(0, .ref (a 28)), (1, .int x1), (2, .int x2)] [] (fun u => u = (wK cB cI cJ cZ cS a s')) := by
  intro p e s0 m below meth c A E H locs ls hP hD hS hl
  obtain ⟨C, hr, hlocks, hA, hK, hN⟩ := id E
  obtain ⟨hx, hb, hml, hown, hts⟩ := id C
  unfold kX4_readSum_7 at hB
  refine lv_iload_n hx hb dX4_readSum_7 rfl (lv_at hl 2 rfl) ?_
  refine lv_sipush (v := 400) hx hb dX4_readSum_8 (by decide) ?_
  refine lv_icmp_ge (tgt := 72) hx hb dX4_readSum_11 (by decide) (fun c1 => ?_) (fun c1 => ?_)
  · have hB := if_p hB c1
    exact q_vret C hr hlocks hK hP hD hS (Nat.le_of_ble_eq_true rfl) (Nat.le_of_ble_eq_true rfl) dX4_readSum_72 (by cases hB; rfl)
  · have hB := if_n hB c1
    refine lv_aload_n hx hb dX4_readSum_14 rfl (lv_at hl 0 rfl) ?_
    refine lv_bipush (v := 43) hx hb dX4_readSum_15 (by decide) ?_
    obtain ⟨q_, s2, hc, hB⟩ := bindI_inv hB
    refine q_goiF (va_runV (As := [.int 43]) (rest := []) C (ckX4_isAt hc _) (cwV 1 hts gX4_readSum_X4_isAt rfl rfl rfl (by decide +kernel) ⟨by dsimp only; omega, by dsimp only; omega⟩) (q_preV hK hP (ci := 4) (q0 := 28) rfl rfl rfl (q_preF hN hK hP hD)) rfl rfl hl.1 rfl (lv_room (Nat.le_of_ble_eq_true rfl)) dX4_readSum_17 ⟨Nat.le_of_ble_eq_true rfl, Nat.le_of_ble_eq_true rfl⟩) hD hS hA (fun r3 w1 H locs hw hP hD hS => ?_)
    obtain ⟨hq_, hw⟩ := hw; subst hw; subst hq_
    refine lv_if_ne (tgt := 32) hx hb dX4_readSum_20 (by decide) (fun c4 => ?_) (fun c4 => ?_)
    · have hB := if_n hB c4
      exact bkX4_readSum_32 hR hfr hlo (hk7) _ _ _ hB p e s0 m below meth c A E H locs ls hP hD hS (lv_sub hl [0, 1, 2] rfl)
    · have hB := if_p hB c4
      refine lv_aload_n hx hb dX4_readSum_23 rfl (lv_at hl 0 rfl) ?_
      refine lv_bipush (v := 45) hx hb dX4_readSum_24 (by decide) ?_
      obtain ⟨q_, s5, hc, hB⟩ := bindI_inv hB
      refine q_goiF (va_runV (As := [.int 45]) (rest := []) C (ckX4_isAt hc _) (cwV 1 hts gX4_readSum_X4_isAt rfl rfl rfl (by decide +kernel) ⟨by dsimp only; omega, by dsimp only; omega⟩) (q_preV hK hP (ci := 4) (q0 := 28) rfl rfl rfl (q_preF hN hK hP hD)) rfl rfl hl.1 rfl (lv_room (Nat.le_of_ble_eq_true rfl)) dX4_readSum_26 ⟨Nat.le_of_ble_eq_true rfl, Nat.le_of_ble_eq_true rfl⟩) hD hS hA (fun r6 w1 H locs hw hP hD hS => ?_)
      obtain ⟨hq_, hw⟩ := hw; subst hw; subst hq_
      refine lv_if_eq (tgt := 72) hx hb dX4_readSum_29 (by decide) (fun c7 => ?_) (fun c7 => ?_)
      · have hB := if_p hB c7
        exact q_vret C hr hlocks hK hP hD hS (Nat.le_of_ble_eq_true rfl) (Nat.le_of_ble_eq_true rfl) dX4_readSum_72 (by cases hB; rfl)
      · have hB := if_n hB c7
        exact bkX4_readSum_32 hR hfr hlo (hk7) _ _ _ hB p e s0 m below meth c A E H locs ls hP hD hS (lv_sub hl [0, 1, 2] rfl)
theorem bkX4_readSum_7L {l : Launch} {dC : Nat → ClassId} {dI : Nat → Nat → Nat} {cB cI cJ cZ cS : ClassId} {a : Nat → Nat} {R : KS → Int32 → Option KS} {fr lo : Nat} (hR : ∀ {s : KS} {x1 : Int32} {s' : KS}, R s x1 = some s' → CV l yX4_readSum wsX4_readSum ({ frames := fr, cells := 0, slots := 0, locals := lo }) (dC, dI) (tysA cB cI cJ cZ cS) (wK cB cI cJ cZ cS a s) [.ref (a 28), .int x1] (fun u => u = wK cB cI cJ cZ cS a s')) (hfr : 2 ≤ fr) (hlo : 42 ≤ lo) {as : List Value} {s' : KS} : ∀ (n : Nat) (s : KS) (x1 : Int32) (x2 : Int32), kX4_readSum_7L R n s x1 x2 = some s' → BlkV l yX4_readSum wsX4_readSum ({ frames := fr + 3, cells := 0, slots := 0, locals := lo + 69 }) cX4_readSum 4 none (dC, dI) (tysA cB cI cJ cZ cS) as 7 (wK cB cI cJ cZ cS a s) [(0, .ref (a 28)), (1, .int x1), (2, .int x2)] [] (fun u => u = (wK cB cI cJ cZ cS a s')) := by
  intro n
  induction n with
  | zero => intro s x1 x2 hB; exact none_ne hB
  | succ n ih => intro s x1 x2 hB; exact bkX4_readSum_7 hR hfr hlo ih _ _ _ hB
set_option maxHeartbeats 4000000 in
set_option maxRecDepth 100000 in
theorem bkX4_readSum {l : Launch} {dC : Nat → ClassId} {dI : Nat → Nat → Nat} {cB cI cJ cZ cS : ClassId} {a : Nat → Nat} {R : KS → Int32 → Option KS} {fr lo : Nat} (hR : ∀ {s : KS} {x1 : Int32} {s' : KS}, R s x1 = some s' → CV l yX4_readSum wsX4_readSum ({ frames := fr, cells := 0, slots := 0, locals := lo }) (dC, dI) (tysA cB cI cJ cZ cS) (wK cB cI cJ cZ cS a s) [.ref (a 28), .int x1] (fun u => u = wK cB cI cJ cZ cS a s')) (hfr : 2 ≤ fr) (hlo : 42 ≤ lo) {as : List Value} {s' : KS} (s : KS) (x1 : Int32) (hB : kX4_readSum R s x1 = some s') : BlkV l yX4_readSum wsX4_readSum ({ frames := fr + 3, cells := 0, slots := 0, locals := lo + 69 }) cX4_readSum 4 none (dC, dI) (tysA cB cI cJ cZ cS) as 0 (wK cB cI cJ cZ cS a s) [(0, .ref (a 28)), (1, .int x1)] [] (fun u => u = (wK cB cI cJ cZ cS a s')) := by
  intro p e s0 m below meth c A E H locs ls hP hD hS hl
  obtain ⟨C, hr, hlocks, hA, hK, hN⟩ := id E
  obtain ⟨hx, hb, hml, hown, hts⟩ := id C
  unfold kX4_readSum at hB
  refine lv_aload_n hx hb dX4_readSum_0 rfl (lv_at hl 0 rfl) ?_
  refine lv_iload_n hx hb dX4_readSum_1 rfl (lv_at hl 1 rfl) ?_
  obtain ⟨s1, hc, hB⟩ := bindP_inv hB
  refine q_govF (va_runV (As := [.int x1]) (rest := []) C (ckX4_readProduct hR (by omega) (by omega) hc _) (cwV 1 hts gX4_readSum_X4_readProduct rfl rfl rfl (by decide +kernel) ⟨by dsimp only; omega, by dsimp only; omega⟩) (q_preV hK hP (ci := 4) (q0 := 28) rfl rfl rfl (q_preF hN hK hP hD)) rfl rfl hl.1 rfl (lv_room (Nat.le_of_ble_eq_true rfl)) dX4_readSum_2 ⟨Nat.le_of_ble_eq_true rfl, Nat.le_of_ble_eq_true rfl⟩) hD hS hA (fun w1 H locs hw hP hD hS => ?_)
  subst hw
  refine lv_iconst (v := 0) hx hb dX4_readSum_5 (by decide) ?_
  refine lv_istore_n (lv' := [(2, .int 0), (0, .ref (a 28)), (1, .int x1)]) hx hb dX4_readSum_6 rfl hl (by decide) rfl (fun ls hl => ?_)
  exact bkX4_readSum_7L hR hfr hlo fu _ _ _ hB p e s0 m below meth c A E H locs ls hP hD hS (lv_sub hl [1, 2, 0] rfl)
theorem ckX4_readSum {l : Launch} {dC : Nat → ClassId} {dI : Nat → Nat → Nat} {cB cI cJ cZ cS : ClassId} {a : Nat → Nat} {R : KS → Int32 → Option KS} {fr lo : Nat} (hR : ∀ {s : KS} {x1 : Int32} {s' : KS}, R s x1 = some s' → CV l yX4_readSum wsX4_readSum ({ frames := fr, cells := 0, slots := 0, locals := lo }) (dC, dI) (tysA cB cI cJ cZ cS) (wK cB cI cJ cZ cS a s) [.ref (a 28), .int x1] (fun u => u = wK cB cI cJ cZ cS a s')) (hfr : 2 ≤ fr) (hlo : 42 ≤ lo) {s' : KS} {s : KS} {x1 : Int32} (hB : kX4_readSum R s x1 = some s') : CV l yX4_readSum wsX4_readSum ({ frames := fr + 3, cells := 0, slots := 0, locals := lo + 69 }) (dC, dI) (tysA cB cI cJ cZ cS) (wK cB cI cJ cZ cS a s) [.ref (a 28), .int x1] (fun u => u = (wK cB cI cJ cZ cS a s')) :=
  CV_of (cc := cX4_readSum) (maxL := 4) (ret := none) (by decide) rfl (Nat.le_of_ble_eq_true rfl) (bkX4_readSum hR hfr hlo _ _ hB)
theorem ckX4_readSumR {l : Launch} {dC : Nat → ClassId} {dI : Nat → Nat → Nat} {cB cI cJ cZ cS : ClassId} {a : Nat → Nat} : ∀ (n : Nat) {s : KS} {x1 : Int32} {s' : KS}, kX4_readSumR n s x1 = some s' → CV l yX4_readSum wsX4_readSum ({ frames := 2 + 3 * n, cells := 0, slots := 0, locals := 42 + 69 * n }) (dC, dI) (tysA cB cI cJ cZ cS) (wK cB cI cJ cZ cS a s) [.ref (a 28), .int x1] (fun u => u = wK cB cI cJ cZ cS a s') := by
  intro n
  induction n with
  | zero => intro _ _ _ hB; exact none_ne hB
  | succ n ih =>
    intro _ _ _ hB
    have h := ckX4_readSum (R := kX4_readSumR n) ih (by omega) (by omega) hB
    exact h
theorem ckX4_readSum_8 {l : Launch} {dC : Nat → ClassId} {dI : Nat → Nat → Nat} {cB cI cJ cZ cS : ClassId} {a : Nat → Nat} {s : KS} {x1 : Int32} {s' : KS} (hB : kX4_readSumR 8 s x1 = some s') : CV l yX4_readSum wsX4_readSum ({ frames := 26, cells := 0, slots := 0, locals := 594 }) (dC, dI) (tysA cB cI cJ cZ cS) (wK cB cI cJ cZ cS a s) [.ref (a 28), .int x1] (fun u => u = wK cB cI cJ cZ cS a s') := ckX4_readSumR 8 hB
theorem LX2_oddsOverWithin_24 : Cond.fieldLink RX2 24 "GuessFerry$Outlook" "sound" "LGuessFerry$Sound;" ∈ wsX2_oddsOverWithin := by decide +kernel
theorem LX2_oddsOverWithin_I_X10 : Cond.initialized RX10 ∈ wsX2_oddsOverWithin := by decide +kernel
theorem LX2_oddsOverWithin_S_X10_thingIn : Cond.static yX10_thingIn ∈ wsX2_oddsOverWithin := by decide +kernel
theorem inX2_oddsOverWithin_X2 : ∀ w ∈ u_ws RX2 TX2 6, w ∈ wsX2_oddsOverWithin := by decide +kernel
theorem inX2_oddsOverWithin_X5 : ∀ w ∈ u_ws RX5 TX5 10, w ∈ wsX2_oddsOverWithin := by decide +kernel
theorem inX2_oddsOverWithin_X6 : ∀ w ∈ u_ws RX6 TX6 7, w ∈ wsX2_oddsOverWithin := by decide +kernel
set_option maxHeartbeats 4000000 in
set_option maxRecDepth 100000 in
theorem bkX2_oddsOverWithin_158 {l : Launch} {dC : Nat → ClassId} {dI : Nat → Nat → Nat} {cB cI cJ cZ cS : ClassId} {a b : Nat → Nat} {R : JS → Int32 → Int32 → Option (Int32 × JS)} {fr lo : Nat} (hR : ∀ {s : JS} {x2 x3 r : Int32} {s' : JS}, R s x2 x3 = some (r, s') → CI l yX2_oddsOverWithin wsX2_oddsOverWithin ({ frames := fr, cells := 0, slots := 0, locals := lo }) (dC, dI) (tysA cB cI cJ cZ cS) (wJ cB cI cJ cZ cS a b s) [.ref (a 36), .ref (b 0), .int x2, .int x3] (fun x u => x = r ∧ u = wJ cB cI cJ cZ cS a b s')) (hfr : 6 ≤ fr) (hlo : 152 ≤ lo) {as : List Value} {r : Int32} {s' : JS} {k55 : JS → Int32 → Int32 → Int32 → Int32 → Int32 → Int32 → Option (Int32 × JS)} (hk55 : ∀ (s : JS) (x2 : Int32) (x3 : Int32) (x4 : Int32) (x5 : Int32) (x6 : Int32) (x7 : Int32), k55 s x2 x3 x4 x5 x6 x7 = some (r, s') → BlkI l yX2_oddsOverWithin wsX2_oddsOverWithin ({ frames := fr + 1, cells := 0, slots := 0, locals := lo + 28 }) cX2_oddsOverWithin 9 (some .int) (dC, dI) (tysA cB cI cJ cZ cS) as 55 (wJ cB cI cJ cZ cS a b s) [(0, .ref (a 36)), (1, .ref (b 0)), (2, .int x2), (3, .int x3), (4, .int x4), (5, .int x5), (6, .int x6), (7, .int x7)] [] (fun x u => x = r ∧ u = (wJ cB cI cJ cZ cS a b s'))) (s : JS) (x2 : Int32) (x3 : Int32) (x4 : Int32) (x5 : Int32) (x6 : Int32) (x7 : Int32) (hB : kX2_oddsOverWithin_158 R k55 s x2 x3 x4 x5 x6 x7 = some (r, s')) : BlkI l yX2_oddsOverWithin wsX2_oddsOverWithin ({ frames := fr + 1, cells := 0, slots := 0, locals := lo + 28 }) cX2_oddsOverWithin 9 (some .int) (dC, dI) (tysA cB cI cJ cZ cS) as 158 (wJ cB cI cJ cZ cS a b s) [(0, .ref (a 36)), (1, .ref (b 0)), (2, .int x2), (3, .int x3), (4, .int x4), (5, .int x5), (6, .int x6), (7, .int x7)] [] (fun x u => x = r ∧ u = (wJ cB cI cJ cZ cS a b s')) := by
  intro p e s0 m below meth c A E H locs ls hP hD hS hl
  obtain ⟨C, hr, hlocks, hA, hK, hN⟩ := id E
  obtain ⟨hx, hb, hml, hown, hts⟩ := id C
  unfold kX2_oddsOverWithin_158 at hB
  refine lv_iinc (v := (x7 + 1)) (lv' := [(7, .int (x7 + 1)), (0, .ref (a 36)), (1, .ref (b 0)), (2, .int x2), (3, .int x3), (4, .int x4), (5, .int x5), (6, .int x6)]) hx hb dX2_oddsOverWithin_158 hl (k := 7) rfl (rfl) (by decide) rfl (fun ls hl => ?_)
  refine lv_goto (tgt := 55) hx hb dX2_oddsOverWithin_161 (by decide) ?_
  exact hk55 _ _ _ _ _ _ _ hB p e s0 m below meth c A E H locs ls hP hD hS (lv_sub hl [1, 2, 3, 4, 5, 6, 7, 0] rfl)
set_option maxHeartbeats 4000000 in
set_option maxRecDepth 100000 in
theorem bkX2_oddsOverWithin_129 {l : Launch} {dC : Nat → ClassId} {dI : Nat → Nat → Nat} {cB cI cJ cZ cS : ClassId} {a b : Nat → Nat} {R : JS → Int32 → Int32 → Option (Int32 × JS)} {fr lo : Nat} (hR : ∀ {s : JS} {x2 x3 r : Int32} {s' : JS}, R s x2 x3 = some (r, s') → CI l yX2_oddsOverWithin wsX2_oddsOverWithin ({ frames := fr, cells := 0, slots := 0, locals := lo }) (dC, dI) (tysA cB cI cJ cZ cS) (wJ cB cI cJ cZ cS a b s) [.ref (a 36), .ref (b 0), .int x2, .int x3] (fun x u => x = r ∧ u = wJ cB cI cJ cZ cS a b s')) (hfr : 6 ≤ fr) (hlo : 152 ≤ lo) {as : List Value} {r : Int32} {s' : JS} {k55 : JS → Int32 → Int32 → Int32 → Int32 → Int32 → Int32 → Option (Int32 × JS)} (hk55 : ∀ (s : JS) (x2 : Int32) (x3 : Int32) (x4 : Int32) (x5 : Int32) (x6 : Int32) (x7 : Int32), k55 s x2 x3 x4 x5 x6 x7 = some (r, s') → BlkI l yX2_oddsOverWithin wsX2_oddsOverWithin ({ frames := fr + 1, cells := 0, slots := 0, locals := lo + 28 }) cX2_oddsOverWithin 9 (some .int) (dC, dI) (tysA cB cI cJ cZ cS) as 55 (wJ cB cI cJ cZ cS a b s) [(0, .ref (a 36)), (1, .ref (b 0)), (2, .int x2), (3, .int x3), (4, .int x4), (5, .int x5), (6, .int x6), (7, .int x7)] [] (fun x u => x = r ∧ u = (wJ cB cI cJ cZ cS a b s'))) (s : JS) (x2 : Int32) (x3 : Int32) (x4 : Int32) (x5 : Int32) (x6 : Int32) (x7 : Int32) (x8 : Int32) (hB : kX2_oddsOverWithin_129 R k55 s x2 x3 x4 x5 x6 x7 x8 = some (r, s')) : BlkI l yX2_oddsOverWithin wsX2_oddsOverWithin ({ frames := fr + 1, cells := 0, slots := 0, locals := lo + 28 }) cX2_oddsOverWithin 9 (some .int) (dC, dI) (tysA cB cI cJ cZ cS) as 129 (wJ cB cI cJ cZ cS a b s) [(0, .ref (a 36)), (1, .ref (b 0)), (2, .int x2), (3, .int x3), (4, .int x4), (5, .int x5), (6, .int x6), (7, .int x7), (8, .int x8)] [] (fun x u => x = r ∧ u = (wJ cB cI cJ cZ cS a b s')) := by
  intro p e s0 m below meth c A E H locs ls hP hD hS hl
  obtain ⟨C, hr, hlocks, hA, hK, hN⟩ := id E
  obtain ⟨hx, hb, hml, hown, hts⟩ := id C
  unfold kX2_oddsOverWithin_129 at hB
  refine lv_aload_n hx hb dX2_oddsOverWithin_129 rfl (lv_at hl 1 rfl) ?_
  refine q_getN (v := .ref (b 1)) C hN inX2_oddsOverWithin_X6 hK hP 0 rfl rfl 0 (by decide) rfl nwF_X2_128 rfl dX2_oddsOverWithin_130 ?_
  refine lv_iload hx hb dX2_oddsOverWithin_133 (lv_at hl 7 rfl) ?_
  obtain ⟨g1, hB⟩ := guard_inv hB
  refine q_iald (x := ((s.d.f 0) (Int32.toNatClampNeg x7))) C hK hP 1 1 rfl rfl (vpb_in g1) dX2_oddsOverWithin_135 rfl ?_
  refine lv_iconst (v := (-1)) hx hb dX2_oddsOverWithin_136 (by decide) ?_
  refine lv_icmp_ne (tgt := 158) hx hb dX2_oddsOverWithin_137 (by decide) (fun c2 => ?_) (fun c2 => ?_)
  · have hB := if_n hB c2
    exact bkX2_oddsOverWithin_158 hR hfr hlo (hk55) _ _ _ _ _ _ _ hB p e s0 m below meth c A E H locs ls hP hD hS (lv_sub hl [0, 1, 2, 3, 4, 5, 6, 7] rfl)
  · have hB := if_p hB c2
    refine lv_aload_n hx hb dX2_oddsOverWithin_140 rfl (lv_at hl 1 rfl) ?_
    refine q_getN (v := .ref (b 1)) C hN inX2_oddsOverWithin_X6 hK hP 0 rfl rfl 0 (by decide) rfl nwF_X2_128 rfl dX2_oddsOverWithin_141 ?_
    refine lv_iload hx hb dX2_oddsOverWithin_144 (lv_at hl 7 rfl) ?_
    refine lv_iload hx hb dX2_oddsOverWithin_146 (lv_at hl 8 rfl) ?_
    obtain ⟨g3, hB⟩ := guard_inv hB
    obtain ⟨s4, hs5, hB⟩ := letS_inv hB
    refine q_iast (f2 := (upd (s.d.f 0) (Int32.toNatClampNeg x7) x8)) (w2 := (wJ cB cI cJ cZ cS a b s4)) C hK hP hD hS 1 1 rfl rfl (vpb_in g3) dX2_oddsOverWithin_148 rfl (by subst hs5; rfl) (fun H locs hP hD hS => ?_)
    refine lv_iload hx hb dX2_oddsOverWithin_149 (lv_at hl 6 rfl) ?_
    refine lv_iconst (v := 1) hx hb dX2_oddsOverWithin_151 (by decide) ?_
    refine lv_iload hx hb dX2_oddsOverWithin_152 (lv_at hl 7 rfl) ?_
    refine lv_ishl hx hb dX2_oddsOverWithin_154 ?_
    refine lv_ior hx hb dX2_oddsOverWithin_155 ?_
    refine lv_istore (lv' := [(6, .int (x6 ||| (1 <<< (x7 &&& 31)))), (0, .ref (a 36)), (1, .ref (b 0)), (2, .int x2), (3, .int x3), (4, .int x4), (5, .int x5), (7, .int x7), (8, .int x8)]) hx hb dX2_oddsOverWithin_156 hl (by decide) rfl (fun ls hl => ?_)
    exact bkX2_oddsOverWithin_158 hR hfr hlo (hk55) _ _ _ _ _ _ _ hB p e s0 m below meth c A E H locs ls hP hD hS (lv_sub hl [1, 2, 3, 4, 5, 6, 0, 7] rfl)
set_option maxHeartbeats 4000000 in
set_option maxRecDepth 100000 in
theorem bkX2_oddsOverWithin_55 {l : Launch} {dC : Nat → ClassId} {dI : Nat → Nat → Nat} {cB cI cJ cZ cS : ClassId} {a b : Nat → Nat} {R : JS → Int32 → Int32 → Option (Int32 × JS)} {fr lo : Nat} (hR : ∀ {s : JS} {x2 x3 r : Int32} {s' : JS}, R s x2 x3 = some (r, s') → CI l yX2_oddsOverWithin wsX2_oddsOverWithin ({ frames := fr, cells := 0, slots := 0, locals := lo }) (dC, dI) (tysA cB cI cJ cZ cS) (wJ cB cI cJ cZ cS a b s) [.ref (a 36), .ref (b 0), .int x2, .int x3] (fun x u => x = r ∧ u = wJ cB cI cJ cZ cS a b s')) (hfr : 6 ≤ fr) (hlo : 152 ≤ lo) {as : List Value} {r : Int32} {s' : JS} {k55 : JS → Int32 → Int32 → Int32 → Int32 → Int32 → Int32 → Option (Int32 × JS)} (hk55 : ∀ (s : JS) (x2 : Int32) (x3 : Int32) (x4 : Int32) (x5 : Int32) (x6 : Int32) (x7 : Int32), k55 s x2 x3 x4 x5 x6 x7 = some (r, s') → BlkI l yX2_oddsOverWithin wsX2_oddsOverWithin ({ frames := fr + 1, cells := 0, slots := 0, locals := lo + 28 }) cX2_oddsOverWithin 9 (some .int) (dC, dI) (tysA cB cI cJ cZ cS) as 55 (wJ cB cI cJ cZ cS a b s) [(0, .ref (a 36)), (1, .ref (b 0)), (2, .int x2), (3, .int x3), (4, .int x4), (5, .int x5), (6, .int x6), (7, .int x7)] [] (fun x u => x = r ∧ u = (wJ cB cI cJ cZ cS a b s'))) (s : JS) (x2 : Int32) (x3 : Int32) (x4 : Int32) (x5 : Int32) (x6 : Int32) (x7 : Int32) (hB : kX2_oddsOverWithin_55 R k55 s x2 x3 x4 x5 x6 x7 = some (r, s')) : BlkI l yX2_oddsOverWithin wsX2_oddsOverWithin ({ frames := fr + 1, cells := 0, slots := 0, locals := lo + 28 }) cX2_oddsOverWithin 9 (some .int) (dC, dI) (tysA cB cI cJ cZ cS) as 55 (wJ cB cI cJ cZ cS a b s) [(0, .ref (a 36)), (1, .ref (b 0)), (2, .int x2), (3, .int x3), (4, .int x4), (5, .int x5), (6, .int x6), (7, .int x7)] [] (fun x u => x = r ∧ u = (wJ cB cI cJ cZ cS a b s')) := by
  intro p e s0 m below meth c A E H locs ls hP hD hS hl
  obtain ⟨C, hr, hlocks, hA, hK, hN⟩ := id E
  obtain ⟨hx, hb, hml, hown, hts⟩ := id C
  unfold kX2_oddsOverWithin_55 at hB
  refine lv_iload hx hb dX2_oddsOverWithin_55 (lv_at hl 7 rfl) ?_
  refine lv_aload_n hx hb dX2_oddsOverWithin_57 rfl (lv_at hl 0 rfl) ?_
  refine q_get (v := .ref (a 2)) C inX2_oddsOverWithin_X2 hK hP 42 rfl rfl 0 (by decide) rfl LX2_oddsOverWithin_24 rfl dX2_oddsOverWithin_58 ?_
  refine q_getN (v := .int (s.k.v 1)) C hN inX2_oddsOverWithin_X5 hK hP 8 rfl rfl 6 (by decide) rfl nwF_X2_44 rfl dX2_oddsOverWithin_61 ?_
  refine lv_icmp_ge (tgt := 164) hx hb dX2_oddsOverWithin_64 (by decide) (fun c1 => ?_) (fun c1 => ?_)
  · have hB := if_p hB c1
    refine lv_aload_n hx hb dX2_oddsOverWithin_164 rfl (lv_at hl 0 rfl) ?_
    refine lv_aload_n hx hb dX2_oddsOverWithin_165 rfl (lv_at hl 1 rfl) ?_
    refine lv_iload hx hb dX2_oddsOverWithin_166 (lv_at hl 6 rfl) ?_
    obtain ⟨s2, hc, hB⟩ := bindP_inv hB
    refine q_govF (va_runV (As := [.ref (b 0), .int x6]) (rest := []) C (ckX2_unfind hc _) (cwV 2 hts gX2_oddsOverWithin_X2_unfind rfl rfl rfl (by decide +kernel) ⟨by dsimp only; omega, by dsimp only; omega⟩) (q_preV hK hP (ci := 2) (q0 := 42) rfl rfl rfl (q_preF hN hK hP hD)) rfl rfl hl.1 rfl (lv_room (Nat.le_of_ble_eq_true rfl)) dX2_oddsOverWithin_168 ⟨Nat.le_of_ble_eq_true rfl, Nat.le_of_ble_eq_true rfl⟩) hD hS hA (fun w1 H locs hw hP hD hS => ?_)
    subst hw
    refine lv_aload_n hx hb dX2_oddsOverWithin_171 rfl (lv_at hl 1 rfl) ?_
    refine q_getN (v := .ref (b 5)) C hN inX2_oddsOverWithin_X6 hK hP 0 rfl rfl 4 (by decide) rfl nwF_X2_117 rfl dX2_oddsOverWithin_172 ?_
    refine lv_iload_n hx hb dX2_oddsOverWithin_175 rfl (lv_at hl 2 rfl) ?_
    refine lv_dup2_11 hx hb dX2_oddsOverWithin_176 rfl rfl ?_
    obtain ⟨g3, hB⟩ := guard_inv hB
    refine q_iald (x := ((s2.d.f 4) (Int32.toNatClampNeg x2))) C hK hP 5 1 rfl rfl (vpb_in g3) dX2_oddsOverWithin_177 rfl ?_
    refine lv_iconst (v := 1) hx hb dX2_oddsOverWithin_178 (by decide) ?_
    refine lv_isub hx hb dX2_oddsOverWithin_179 ?_
    obtain ⟨g4, hB⟩ := guard_inv hB
    obtain ⟨s5, hs6, hB⟩ := letS_inv hB
    refine q_iast (f2 := (upd (s2.d.f 4) (Int32.toNatClampNeg x2) (((s2.d.f 4) (Int32.toNatClampNeg x2)) - 1))) (w2 := (wJ cB cI cJ cZ cS a b s5)) C hK hP hD hS 5 1 rfl rfl (vpb_in g4) dX2_oddsOverWithin_180 rfl (by subst hs6; rfl) (fun H locs hP hD hS => ?_)
    refine lv_iload hx hb dX2_oddsOverWithin_181 (lv_at hl 5 rfl) ?_
    exact q_iret C hr hlocks hK hP hD hS (Nat.le_of_ble_eq_true rfl) (Nat.le_of_ble_eq_true rfl) dX2_oddsOverWithin_183 (by cases hB; exact ⟨rfl, rfl⟩)
  · have hB := if_n hB c1
    refine lv_iload hx hb dX2_oddsOverWithin_67 (lv_at hl 4 rfl) ?_
    refine lv_iload hx hb dX2_oddsOverWithin_69 (lv_at hl 7 rfl) ?_
    obtain ⟨q_, hc, hB⟩ := bindP_inv hB
    refine q_goi0 (va_runSN (As := [.int x4, .int x7]) (rest := []) C (ckX10_thingIn hc _) ⟨va_cnB 2 hts gX2_oddsOverWithin_X10_thingIn_n65 rfl rfl rfl (hN _ nwM_X2_65 rfl) (hts _ LX2_oddsOverWithin_I_X10) (by decide +kernel) ⟨by dsimp only; omega, by dsimp only; omega⟩, hts _ LX2_oddsOverWithin_S_X10_thingIn, trivial⟩ (q_pre0 hN hK) rfl rfl hl.1 rfl (lv_room (Nat.le_of_ble_eq_true rfl)) dX2_oddsOverWithin_71 ⟨Nat.le_of_ble_eq_true rfl, Nat.le_of_ble_eq_true rfl⟩) hP hD hS hA (fun r7 w1 H locs hw hP hS => ?_)
    subst hw
    refine lv_istore (lv' := [(8, .int r7), (0, .ref (a 36)), (1, .ref (b 0)), (2, .int x2), (3, .int x3), (4, .int x4), (5, .int x5), (6, .int x6), (7, .int x7)]) hx hb dX2_oddsOverWithin_74 hl (by decide) rfl (fun ls hl => ?_)
    refine lv_aload_n hx hb dX2_oddsOverWithin_76 rfl (lv_at hl 1 rfl) ?_
    refine lv_aload_n hx hb dX2_oddsOverWithin_77 rfl (lv_at hl 2 rfl) ?_
    refine lv_iload hx hb dX2_oddsOverWithin_78 (lv_at hl 8 rfl) ?_
    obtain ⟨q_, s8, hc, hB⟩ := bindI_inv hB
    refine q_goiF (va_runV (As := [.ref (b 0), .int x7]) (rest := []) C (ckX2_mayCount hc _) (cwV 2 hts gX2_oddsOverWithin_X2_mayCount rfl rfl rfl (by decide +kernel) ⟨by dsimp only; omega, by dsimp only; omega⟩) (q_preV hK hP (ci := 2) (q0 := 42) rfl rfl rfl (q_preF hN hK hP hD)) rfl rfl hl.1 rfl (lv_room (Nat.le_of_ble_eq_true rfl)) dX2_oddsOverWithin_80 ⟨Nat.le_of_ble_eq_true rfl, Nat.le_of_ble_eq_true rfl⟩) hD hS hA (fun r9 w1 H locs hw hP hD hS => ?_)
    obtain ⟨hq_, hw⟩ := hw; subst hw; subst hq_
    refine lv_iconst (v := 1) hx hb dX2_oddsOverWithin_83 (by decide) ?_
    refine lv_icmp_le (tgt := 129) hx hb dX2_oddsOverWithin_84 (by decide) (fun c10 => ?_) (fun c10 => ?_)
    · have hB := if_p hB c10
      exact bkX2_oddsOverWithin_129 hR hfr hlo (hk55) _ _ _ _ _ _ _ _ hB p e s0 m below meth c A E H locs ls hP hD hS (lv_sub hl [1, 2, 3, 4, 5, 6, 7, 8, 0] rfl)
    · have hB := if_n hB c10
      refine lv_aload_n hx hb dX2_oddsOverWithin_87 rfl (lv_at hl 2 rfl) ?_
      refine q_getN (v := .ref (b 2)) C hN inX2_oddsOverWithin_X6 hK hP 0 rfl rfl 1 (by decide) rfl nwF_X2_122 rfl dX2_oddsOverWithin_88 ?_
      refine lv_iload hx hb dX2_oddsOverWithin_91 (lv_at hl 8 rfl) ?_
      refine lv_dup2_11 hx hb dX2_oddsOverWithin_93 rfl rfl ?_
      obtain ⟨g11, hB⟩ := guard_inv hB
      refine q_iald (x := ((s8.d.f 1) (Int32.toNatClampNeg x7))) C hK hP 2 1 rfl rfl (vpb_in g11) dX2_oddsOverWithin_94 rfl ?_
      refine lv_iconst (v := 1) hx hb dX2_oddsOverWithin_95 (by decide) ?_
      refine lv_iload hx hb dX2_oddsOverWithin_96 (lv_at hl 0 rfl) ?_
      refine lv_ishl hx hb dX2_oddsOverWithin_98 ?_
      refine lv_ixor hx hb dX2_oddsOverWithin_99 ?_
      obtain ⟨g12, hB⟩ := guard_inv hB
      obtain ⟨s13, hs14, hB⟩ := letS_inv hB
      refine q_iast (f2 := (upd (s8.d.f 1) (Int32.toNatClampNeg x7) (((s8.d.f 1) (Int32.toNatClampNeg x7)) ^^^ (1 <<< (r7 &&& 31))))) (w2 := (wJ cB cI cJ cZ cS a b s13)) C hK hP hD hS 2 1 rfl rfl (vpb_in g12) dX2_oddsOverWithin_100 rfl (by subst hs14; rfl) (fun H locs hP hD hS => ?_)
      refine lv_iload hx hb dX2_oddsOverWithin_101 (lv_at hl 6 rfl) ?_
      refine lv_aload_n hx hb dX2_oddsOverWithin_103 rfl (lv_at hl 1 rfl) ?_
      refine lv_aload_n hx hb dX2_oddsOverWithin_104 rfl (lv_at hl 2 rfl) ?_
      refine lv_iload_n hx hb dX2_oddsOverWithin_105 rfl (lv_at hl 3 rfl) ?_
      refine lv_iload_n hx hb dX2_oddsOverWithin_106 rfl (lv_at hl 4 rfl) ?_
      refine lv_iconst (v := 1) hx hb dX2_oddsOverWithin_107 (by decide) ?_
      refine lv_isub hx hb dX2_oddsOverWithin_108 ?_
      obtain ⟨q_, s15, hc, hB⟩ := bindI_inv hB
      refine q_goiF (va_runV (As := [.ref (b 0), .int x2, .int (x3 - 1)]) (rest := [.int x5]) C (hR hc _) (cwV 3 hts gX2_oddsOverWithin_X2_oddsOverWithin rfl rfl rfl (by decide +kernel) ⟨by dsimp only; omega, by dsimp only; omega⟩) (q_preV hK hP (ci := 2) (q0 := 42) rfl rfl rfl (q_preF hN hK hP hD)) rfl rfl hl.1 rfl (lv_room (Nat.le_of_ble_eq_true rfl)) dX2_oddsOverWithin_109 ⟨Nat.le_of_ble_eq_true rfl, Nat.le_of_ble_eq_true rfl⟩) hD hS hA (fun r16 w1 H locs hw hP hD hS => ?_)
      obtain ⟨hq_, hw⟩ := hw; subst hw; subst hq_
      refine lv_iadd hx hb dX2_oddsOverWithin_112 ?_
      refine lv_istore (lv' := [(5, .int (x5 + r16)), (8, .int r7), (0, .ref (a 36)), (1, .ref (b 0)), (2, .int x2), (3, .int x3), (4, .int x4), (6, .int x6), (7, .int x7)]) hx hb dX2_oddsOverWithin_113 hl (by decide) rfl (fun ls hl => ?_)
      refine lv_aload_n hx hb dX2_oddsOverWithin_115 rfl (lv_at hl 3 rfl) ?_
      refine q_getN (v := .ref (b 2)) C hN inX2_oddsOverWithin_X6 hK hP 0 rfl rfl 1 (by decide) rfl nwF_X2_122 rfl dX2_oddsOverWithin_116 ?_
      refine lv_iload hx hb dX2_oddsOverWithin_119 (lv_at hl 8 rfl) ?_
      refine lv_dup2_11 hx hb dX2_oddsOverWithin_121 rfl rfl ?_
      obtain ⟨g17, hB⟩ := guard_inv hB
      refine q_iald (x := ((s15.d.f 1) (Int32.toNatClampNeg x7))) C hK hP 2 1 rfl rfl (vpb_in g17) dX2_oddsOverWithin_122 rfl ?_
      refine lv_iconst (v := 1) hx hb dX2_oddsOverWithin_123 (by decide) ?_
      refine lv_iload hx hb dX2_oddsOverWithin_124 (lv_at hl 1 rfl) ?_
      refine lv_ishl hx hb dX2_oddsOverWithin_126 ?_
      refine lv_ixor hx hb dX2_oddsOverWithin_127 ?_
      obtain ⟨g18, hB⟩ := guard_inv hB
      obtain ⟨s19, hs20, hB⟩ := letS_inv hB
      refine q_iast (f2 := (upd (s15.d.f 1) (Int32.toNatClampNeg x7) (((s15.d.f 1) (Int32.toNatClampNeg x7)) ^^^ (1 <<< (r7 &&& 31))))) (w2 := (wJ cB cI cJ cZ cS a b s19)) C hK hP hD hS 2 1 rfl rfl (vpb_in g18) dX2_oddsOverWithin_128 rfl (by subst hs20; rfl) (fun H locs hP hD hS => ?_)
      exact bkX2_oddsOverWithin_129 hR hfr hlo (hk55) _ _ _ _ _ _ _ _ hB p e s0 m below meth c A E H locs ls hP hD hS (lv_sub hl [2, 3, 4, 5, 6, 0, 7, 8, 1] rfl)
theorem bkX2_oddsOverWithin_55L {l : Launch} {dC : Nat → ClassId} {dI : Nat → Nat → Nat} {cB cI cJ cZ cS : ClassId} {a b : Nat → Nat} {R : JS → Int32 → Int32 → Option (Int32 × JS)} {fr lo : Nat} (hR : ∀ {s : JS} {x2 x3 r : Int32} {s' : JS}, R s x2 x3 = some (r, s') → CI l yX2_oddsOverWithin wsX2_oddsOverWithin ({ frames := fr, cells := 0, slots := 0, locals := lo }) (dC, dI) (tysA cB cI cJ cZ cS) (wJ cB cI cJ cZ cS a b s) [.ref (a 36), .ref (b 0), .int x2, .int x3] (fun x u => x = r ∧ u = wJ cB cI cJ cZ cS a b s')) (hfr : 6 ≤ fr) (hlo : 152 ≤ lo) {as : List Value} {r : Int32} {s' : JS} : ∀ (n : Nat) (s : JS) (x2 : Int32) (x3 : Int32) (x4 : Int32) (x5 : Int32) (x6 : Int32) (x7 : Int32), kX2_oddsOverWithin_55L R n s x2 x3 x4 x5 x6 x7 = some (r, s') → BlkI l yX2_oddsOverWithin wsX2_oddsOverWithin ({ frames := fr + 1, cells := 0, slots := 0, locals := lo + 28 }) cX2_oddsOverWithin 9 (some .int) (dC, dI) (tysA cB cI cJ cZ cS) as 55 (wJ cB cI cJ cZ cS a b s) [(0, .ref (a 36)), (1, .ref (b 0)), (2, .int x2), (3, .int x3), (4, .int x4), (5, .int x5), (6, .int x6), (7, .int x7)] [] (fun x u => x = r ∧ u = (wJ cB cI cJ cZ cS a b s')) := by
  intro n
  induction n with
  | zero => intro s x2 x3 x4 x5 x6 x7 hB; exact none_ne hB
  | succ n ih => intro s x2 x3 x4 x5 x6 x7 hB; exact bkX2_oddsOverWithin_55 hR hfr hlo ih _ _ _ _ _ _ _ hB
set_option maxHeartbeats 4000000 in
set_option maxRecDepth 100000 in
theorem bkX2_oddsOverWithin {l : Launch} {dC : Nat → ClassId} {dI : Nat → Nat → Nat} {cB cI cJ cZ cS : ClassId} {a b : Nat → Nat} {R : JS → Int32 → Int32 → Option (Int32 × JS)} {fr lo : Nat} (hR : ∀ {s : JS} {x2 x3 r : Int32} {s' : JS}, R s x2 x3 = some (r, s') → CI l yX2_oddsOverWithin wsX2_oddsOverWithin ({ frames := fr, cells := 0, slots := 0, locals := lo }) (dC, dI) (tysA cB cI cJ cZ cS) (wJ cB cI cJ cZ cS a b s) [.ref (a 36), .ref (b 0), .int x2, .int x3] (fun x u => x = r ∧ u = wJ cB cI cJ cZ cS a b s')) (hfr : 6 ≤ fr) (hlo : 152 ≤ lo) {as : List Value} {r : Int32} {s' : JS} (s : JS) (x2 : Int32) (x3 : Int32) (hB : kX2_oddsOverWithin R s x2 x3 = some (r, s')) : BlkI l yX2_oddsOverWithin wsX2_oddsOverWithin ({ frames := fr + 1, cells := 0, slots := 0, locals := lo + 28 }) cX2_oddsOverWithin 9 (some .int) (dC, dI) (tysA cB cI cJ cZ cS) as 0 (wJ cB cI cJ cZ cS a b s) [(0, .ref (a 36)), (1, .ref (b 0)), (2, .int x2), (3, .int x3)] [] (fun x u => x = r ∧ u = (wJ cB cI cJ cZ cS a b s')) := by
  intro p e s0 m below meth c A E H locs ls hP hD hS hl
  obtain ⟨C, hr, hlocks, hA, hK, hN⟩ := id E
  obtain ⟨hx, hb, hml, hown, hts⟩ := id C
  unfold kX2_oddsOverWithin at hB
  refine lv_aload_n hx hb dX2_oddsOverWithin_0 rfl (lv_at hl 0 rfl) ?_
  refine lv_aload_n hx hb dX2_oddsOverWithin_1 rfl (lv_at hl 1 rfl) ?_
  refine lv_iload_n hx hb dX2_oddsOverWithin_2 rfl (lv_at hl 2 rfl) ?_
  obtain ⟨q_, s1, hc, hB⟩ := bindI_inv hB
  refine q_goiF (va_runV (As := [.ref (b 0), .int x2]) (rest := []) C (ckX2_bestGuess hc _) (cwV 2 hts gX2_oddsOverWithin_X2_bestGuess rfl rfl rfl (by decide +kernel) ⟨by dsimp only; omega, by dsimp only; omega⟩) (q_preV hK hP (ci := 2) (q0 := 42) rfl rfl rfl (q_preF hN hK hP hD)) rfl rfl hl.1 rfl (lv_room (Nat.le_of_ble_eq_true rfl)) dX2_oddsOverWithin_3 ⟨Nat.le_of_ble_eq_true rfl, Nat.le_of_ble_eq_true rfl⟩) hD hS hA (fun r2 w1 H locs hw hP hD hS => ?_)
  obtain ⟨hq_, hw⟩ := hw; subst hw; subst hq_
  refine lv_istore (lv' := [(4, .int r2), (0, .ref (a 36)), (1, .ref (b 0)), (2, .int x2), (3, .int x3)]) hx hb dX2_oddsOverWithin_6 hl (by decide) rfl (fun ls hl => ?_)
  refine lv_iload hx hb dX2_oddsOverWithin_8 (lv_at hl 0 rfl) ?_
  refine lv_bipush (v := (-2)) hx hb dX2_oddsOverWithin_10 (by decide) ?_
  refine lv_icmp_eq (tgt := 20) hx hb dX2_oddsOverWithin_12 (by decide) (fun c3 => ?_) (fun c3 => ?_)
  · have hB := if_p hB c3
    refine lv_iconst (v := 0) hx hb dX2_oddsOverWithin_20 (by decide) ?_
    exact q_iret C hr hlocks hK hP hD hS (Nat.le_of_ble_eq_true rfl) (Nat.le_of_ble_eq_true rfl) dX2_oddsOverWithin_21 (by cases hB; exact ⟨rfl, rfl⟩)
  · have hB := if_n hB c3
    refine lv_iload_n hx hb dX2_oddsOverWithin_15 rfl (lv_at hl 4 rfl) ?_
    refine lv_iconst (v := 1) hx hb dX2_oddsOverWithin_16 (by decide) ?_
    refine lv_icmp_ge (tgt := 22) hx hb dX2_oddsOverWithin_17 (by decide) (fun c4 => ?_) (fun c4 => ?_)
    · have hB := if_p hB c4
      refine lv_aload_n hx hb dX2_oddsOverWithin_22 rfl (lv_at hl 1 rfl) ?_
      refine lv_aload_n hx hb dX2_oddsOverWithin_23 rfl (lv_at hl 2 rfl) ?_
      refine lv_iload hx hb dX2_oddsOverWithin_24 (lv_at hl 0 rfl) ?_
      obtain ⟨q_, s5, hc, hB⟩ := bindI_inv hB
      refine q_goiF (va_runV (As := [.ref (b 0), .int r2]) (rest := []) C (ckX2_oddsOf hc _) (cwV 2 hts gX2_oddsOverWithin_X2_oddsOf rfl rfl rfl (by decide +kernel) ⟨by dsimp only; omega, by dsimp only; omega⟩) (q_preV hK hP (ci := 2) (q0 := 42) rfl rfl rfl (q_preF hN hK hP hD)) rfl rfl hl.1 rfl (lv_room (Nat.le_of_ble_eq_true rfl)) dX2_oddsOverWithin_26 ⟨Nat.le_of_ble_eq_true rfl, Nat.le_of_ble_eq_true rfl⟩) hD hS hA (fun r6 w1 H locs hw hP hD hS => ?_)
      obtain ⟨hq_, hw⟩ := hw; subst hw; subst hq_
      refine lv_istore (lv' := [(5, .int r6), (4, .int r2), (0, .ref (a 36)), (1, .ref (b 0)), (2, .int x2), (3, .int x3)]) hx hb dX2_oddsOverWithin_29 hl (by decide) rfl (fun ls hl => ?_)
      refine lv_iload_n hx hb dX2_oddsOverWithin_31 rfl (lv_at hl 5 rfl) ?_
      refine lv_iconst (v := 1) hx hb dX2_oddsOverWithin_32 (by decide) ?_
      refine lv_icmp_ne (tgt := 39) hx hb dX2_oddsOverWithin_33 (by decide) (fun c7 => ?_) (fun c7 => ?_)
      · have hB := if_n hB c7
        refine lv_aload_n hx hb dX2_oddsOverWithin_39 rfl (lv_at hl 3 rfl) ?_
        refine q_getN (v := .ref (b 5)) C hN inX2_oddsOverWithin_X6 hK hP 0 rfl rfl 4 (by decide) rfl nwF_X2_117 rfl dX2_oddsOverWithin_40 ?_
        refine lv_iload_n hx hb dX2_oddsOverWithin_43 rfl (lv_at hl 4 rfl) ?_
        refine lv_dup2_11 hx hb dX2_oddsOverWithin_44 rfl rfl ?_
        obtain ⟨g8, hB⟩ := guard_inv hB
        refine q_iald (x := ((s5.d.f 4) (Int32.toNatClampNeg x2))) C hK hP 5 1 rfl rfl (vpb_in g8) dX2_oddsOverWithin_45 rfl ?_
        refine lv_iconst (v := 1) hx hb dX2_oddsOverWithin_46 (by decide) ?_
        refine lv_iadd hx hb dX2_oddsOverWithin_47 ?_
        obtain ⟨g9, hB⟩ := guard_inv hB
        obtain ⟨s10, hs11, hB⟩ := letS_inv hB
        refine q_iast (f2 := (upd (s5.d.f 4) (Int32.toNatClampNeg x2) (((s5.d.f 4) (Int32.toNatClampNeg x2)) + 1))) (w2 := (wJ cB cI cJ cZ cS a b s10)) C hK hP hD hS 5 1 rfl rfl (vpb_in g9) dX2_oddsOverWithin_48 rfl (by subst hs11; rfl) (fun H locs hP hD hS => ?_)
        refine lv_iconst (v := 0) hx hb dX2_oddsOverWithin_49 (by decide) ?_
        refine lv_istore (lv' := [(6, .int 0), (5, .int r6), (4, .int r2), (0, .ref (a 36)), (1, .ref (b 0)), (2, .int x2), (3, .int x3)]) hx hb dX2_oddsOverWithin_50 hl (by decide) rfl (fun ls hl => ?_)
        refine lv_iconst (v := 0) hx hb dX2_oddsOverWithin_52 (by decide) ?_
        refine lv_istore (lv' := [(7, .int 0), (6, .int 0), (5, .int r6), (4, .int r2), (0, .ref (a 36)), (1, .ref (b 0)), (2, .int x2), (3, .int x3)]) hx hb dX2_oddsOverWithin_53 hl (by decide) rfl (fun ls hl => ?_)
        exact bkX2_oddsOverWithin_55L hR hfr hlo fu _ _ _ _ _ _ _ hB p e s0 m below meth c A E H locs ls hP hD hS (lv_sub hl [4, 5, 6, 7, 3, 2, 1, 0] rfl)
      · have hB := if_p hB c7
        refine lv_iload hx hb dX2_oddsOverWithin_36 (lv_at hl 0 rfl) ?_
        exact q_iret C hr hlocks hK hP hD hS (Nat.le_of_ble_eq_true rfl) (Nat.le_of_ble_eq_true rfl) dX2_oddsOverWithin_38 (by cases hB; exact ⟨rfl, rfl⟩)
    · have hB := if_n hB c4
      refine lv_iconst (v := 0) hx hb dX2_oddsOverWithin_20 (by decide) ?_
      exact q_iret C hr hlocks hK hP hD hS (Nat.le_of_ble_eq_true rfl) (Nat.le_of_ble_eq_true rfl) dX2_oddsOverWithin_21 (by cases hB; exact ⟨rfl, rfl⟩)
theorem ckX2_oddsOverWithin {l : Launch} {dC : Nat → ClassId} {dI : Nat → Nat → Nat} {cB cI cJ cZ cS : ClassId} {a b : Nat → Nat} {R : JS → Int32 → Int32 → Option (Int32 × JS)} {fr lo : Nat} (hR : ∀ {s : JS} {x2 x3 r : Int32} {s' : JS}, R s x2 x3 = some (r, s') → CI l yX2_oddsOverWithin wsX2_oddsOverWithin ({ frames := fr, cells := 0, slots := 0, locals := lo }) (dC, dI) (tysA cB cI cJ cZ cS) (wJ cB cI cJ cZ cS a b s) [.ref (a 36), .ref (b 0), .int x2, .int x3] (fun x u => x = r ∧ u = wJ cB cI cJ cZ cS a b s')) (hfr : 6 ≤ fr) (hlo : 152 ≤ lo) {r : Int32} {s' : JS} {s : JS} {x2 : Int32} {x3 : Int32} (hB : kX2_oddsOverWithin R s x2 x3 = some (r, s')) : CI l yX2_oddsOverWithin wsX2_oddsOverWithin ({ frames := fr + 1, cells := 0, slots := 0, locals := lo + 28 }) (dC, dI) (tysA cB cI cJ cZ cS) (wJ cB cI cJ cZ cS a b s) [.ref (a 36), .ref (b 0), .int x2, .int x3] (fun x u => x = r ∧ u = (wJ cB cI cJ cZ cS a b s')) :=
  CI_of (cc := cX2_oddsOverWithin) (maxL := 9) (ret := (some .int)) (by decide) rfl (Nat.le_of_ble_eq_true rfl) (bkX2_oddsOverWithin hR hfr hlo _ _ _ hB)
theorem ckX2_oddsOverWithinR {l : Launch} {dC : Nat → ClassId} {dI : Nat → Nat → Nat} {cB cI cJ cZ cS : ClassId} {a b : Nat → Nat} : ∀ (n : Nat) {s : JS} {x2 : Int32} {x3 : Int32} {r : Int32} {s' : JS}, kX2_oddsOverWithinR n s x2 x3 = some (r, s') → CI l yX2_oddsOverWithin wsX2_oddsOverWithin ({ frames := 6 + 1 * n, cells := 0, slots := 0, locals := 152 + 28 * n }) (dC, dI) (tysA cB cI cJ cZ cS) (wJ cB cI cJ cZ cS a b s) [.ref (a 36), .ref (b 0), .int x2, .int x3] (fun x u => x = r ∧ u = wJ cB cI cJ cZ cS a b s') := by
  intro n
  induction n with
  | zero => intro _ _ _ _ _ hB; exact none_ne hB
  | succ n ih =>
    intro _ _ _ _ _ hB
    have h := ckX2_oddsOverWithin (R := kX2_oddsOverWithinR n) ih (by omega) (by omega) hB
    exact h
theorem ckX2_oddsOverWithin_9 {l : Launch} {dC : Nat → ClassId} {dI : Nat → Nat → Nat} {cB cI cJ cZ cS : ClassId} {a b : Nat → Nat} {s : JS} {x2 : Int32} {x3 : Int32} {r : Int32} {s' : JS} (hB : kX2_oddsOverWithinR 9 s x2 x3 = some (r, s')) : CI l yX2_oddsOverWithin wsX2_oddsOverWithin ({ frames := 15, cells := 0, slots := 0, locals := 404 }) (dC, dI) (tysA cB cI cJ cZ cS) (wJ cB cI cJ cZ cS a b s) [.ref (a 36), .ref (b 0), .int x2, .int x3] (fun x u => x = r ∧ u = wJ cB cI cJ cZ cS a b s') := ckX2_oddsOverWithinR 9 hB
