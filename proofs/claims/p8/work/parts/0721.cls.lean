set_option maxRecDepth 20000 in
theorem ggX2_oddsOverWithin_X2_bestGuess : GoodIn wsX2_oddsOverWithin wsX2_bestGuess := goodIn_r _ [6, 1, 7, 8, 9, 5, 10, 11, 12, 13, 14, 15, 16, 17, 18, 19, 20, 21, 22, 23, 24, 25, 26, 27, 28, 29, 30, 31, 32, 33, 34, 35, 36, 37, 38, 39, 40, 41, 42, 43, 44, 45, 46, 47, 48, 49, 50, 51, 52, 53, 54, 55, 56, 57, 58, 59, 60, 61, 62, 63, 64, 65, 66, 67, 68, 69, 70, 71, 72, 73, 74, 75, 76, 77, 78, 79, 80, 81, 82, 83, 84, 110, 111, 112, 113, 114, 115, 116, 117, 118, 119, 120, 121, 122, 123, 124, 125, 103, 104, 105, 106, 107, 108, 109, 126, 127, 128, 129, 130, 131, 132, 133, 134, 135, 136] (by decide +kernel) (by decide +kernel)
set_option maxRecDepth 20000 in
theorem gX2_oddsOverWithin_X2_bestGuess : GoodIn wsX2_oddsOverWithin (wsV RX2 111 RX2 yX2_bestGuess wsX2_bestGuess) := goodIn_app (goodIn_of _ (by decide +kernel)) ggX2_oddsOverWithin_X2_bestGuess
set_option maxRecDepth 20000 in
theorem ggX2_oddsOverWithin_X2_oddsOf : GoodIn wsX2_oddsOverWithin wsX2_oddsOf := goodIn_r _ [88, 1, 89, 22, 90, 12, 13, 14, 5, 15, 11, 16, 17, 18, 19, 20, 21, 23, 24, 25, 26, 27, 28, 110, 111, 112, 113, 114, 115, 116, 117, 118, 119, 120, 121, 122, 123, 124, 125, 103, 104, 105, 106, 107, 108, 109, 126, 127] (by decide +kernel) (by decide +kernel)
set_option maxRecDepth 20000 in
theorem gX2_oddsOverWithin_X2_oddsOf : GoodIn wsX2_oddsOverWithin (wsV RX2 114 RX2 yX2_oddsOf wsX2_oddsOf) := goodIn_app (goodIn_of _ (by decide +kernel)) ggX2_oddsOverWithin_X2_oddsOf
set_option maxRecDepth 20000 in
theorem ggX2_oddsOverWithin_X10_thingIn : GoodIn wsX2_oddsOverWithin wsX10_thingIn := goodIn_r _ [90] (by decide +kernel) (by decide +kernel)
set_option maxRecDepth 20000 in
theorem gX2_oddsOverWithin_X10_thingIn_n65 : GoodIn wsX2_oddsOverWithin (wsX10_thingIn) := ggX2_oddsOverWithin_X10_thingIn
set_option maxRecDepth 20000 in
theorem ggX2_oddsOverWithin_X2_mayCount : GoodIn wsX2_oddsOverWithin wsX2_mayCount := goodIn_r _ [94, 11, 16, 17, 18, 19, 20, 95, 51, 52, 53, 54, 55, 56, 110, 111, 112, 113, 114, 115, 103, 104, 105, 106, 107, 108, 109, 126, 127, 116, 117, 118, 119, 120, 121, 122, 123, 124, 125] (by decide +kernel) (by decide +kernel)
set_option maxRecDepth 20000 in
theorem gX2_oddsOverWithin_X2_mayCount : GoodIn wsX2_oddsOverWithin (wsV RX2 50 RX2 yX2_mayCount wsX2_mayCount) := goodIn_app (goodIn_of _ (by decide +kernel)) ggX2_oddsOverWithin_X2_mayCount
set_option maxRecDepth 20000 in
theorem ggX2_oddsOverWithin_X2_oddsOverWithin : GoodIn wsX2_oddsOverWithin wsX2_oddsOverWithin := goodIn_r _ [0, 1, 2, 3, 4, 5, 6, 7, 8, 9, 10, 11, 12, 13, 14, 15, 16, 17, 18, 19, 20, 21, 22, 23, 24, 25, 26, 27, 28, 29, 30, 31, 32, 33, 34, 35, 36, 37, 38, 39, 40, 41, 42, 43, 44, 45, 46, 47, 48, 49, 50, 51, 52, 53, 54, 55, 56, 57, 58, 59, 60, 61, 62, 63, 64, 65, 66, 67, 68, 69, 70, 71, 72, 73, 74, 75, 76, 77, 78, 79, 80, 81, 82, 83, 84, 85, 86, 87, 88, 89, 90, 91, 92, 93, 94, 95, 96, 97, 98, 99, 100, 101, 102, 103, 104, 105, 106, 107, 108, 109, 110, 111, 112, 113, 114, 115, 116, 117, 118, 119, 120, 121, 122, 123, 124, 125, 126, 127, 128, 129, 130, 131, 132, 133, 134, 135, 136] (by decide +kernel) (by decide +kernel)
set_option maxRecDepth 20000 in
theorem gX2_oddsOverWithin_X2_oddsOverWithin : GoodIn wsX2_oddsOverWithin (wsV RX2 125 RX2 yX2_oddsOverWithin wsX2_oddsOverWithin) := goodIn_app (goodIn_of _ (by decide +kernel)) ggX2_oddsOverWithin_X2_oddsOverWithin
set_option maxRecDepth 20000 in
theorem ggX2_oddsOverWithin_X2_unfind : GoodIn wsX2_oddsOverWithin wsX2_unfind := goodIn_r _ [102, 1, 21, 22, 23, 110, 111, 112, 113, 114, 115, 116, 117, 118, 119, 120, 121, 122, 123, 124, 125, 103, 104, 105, 106, 107, 108, 109] (by decide +kernel) (by decide +kernel)
set_option maxRecDepth 20000 in
theorem gX2_oddsOverWithin_X2_unfind : GoodIn wsX2_oddsOverWithin (wsV RX2 131 RX2 yX2_unfind wsX2_unfind) := goodIn_app (goodIn_of _ (by decide +kernel)) ggX2_oddsOverWithin_X2_unfind
theorem dX2_oddsOverWithin_0 : decode cX2_oddsOverWithin 0 = .ok (.aload_n 0, 1) := dc1_42 (by decide +kernel)
theorem dX2_oddsOverWithin_1 : decode cX2_oddsOverWithin 1 = .ok (.aload_n 1, 1) := dc1_43 (by decide +kernel)
theorem dX2_oddsOverWithin_2 : decode cX2_oddsOverWithin 2 = .ok (.iload_n 2, 1) := dc1_28 (by decide +kernel)
theorem dX2_oddsOverWithin_3 : decode cX2_oddsOverWithin 3 = .ok (.invokevirtual 111, 3) := dcw_182 (by decide +kernel)
theorem dX2_oddsOverWithin_6 : decode cX2_oddsOverWithin 6 = .ok (.istore 4, 2) := dcu_54 (by decide +kernel)
theorem dX2_oddsOverWithin_8 : decode cX2_oddsOverWithin 8 = .ok (.iload 4, 2) := dcu_21 (by decide +kernel)
theorem dX2_oddsOverWithin_10 : decode cX2_oddsOverWithin 10 = .ok (.bipush (-2), 2) := dcb_16 (n := 254) (by decide +kernel)
theorem dX2_oddsOverWithin_12 : decode cX2_oddsOverWithin 12 = .ok (.if_icmp .eq 8, 3) := dcs_159 (n := 8) (by decide +kernel)
theorem dX2_oddsOverWithin_15 : decode cX2_oddsOverWithin 15 = .ok (.iload_n 3, 1) := dc1_29 (by decide +kernel)
theorem dX2_oddsOverWithin_16 : decode cX2_oddsOverWithin 16 = .ok (.iconst 1, 1) := dc1_4 (by decide +kernel)
theorem dX2_oddsOverWithin_17 : decode cX2_oddsOverWithin 17 = .ok (.if_icmp .ge 5, 3) := dcs_162 (n := 5) (by decide +kernel)
theorem dX2_oddsOverWithin_20 : decode cX2_oddsOverWithin 20 = .ok (.iconst 0, 1) := dc1_3 (by decide +kernel)
theorem dX2_oddsOverWithin_21 : decode cX2_oddsOverWithin 21 = .ok (.ireturn, 1) := dc1_172 (by decide +kernel)
theorem dX2_oddsOverWithin_22 : decode cX2_oddsOverWithin 22 = .ok (.aload_n 0, 1) := dc1_42 (by decide +kernel)
theorem dX2_oddsOverWithin_23 : decode cX2_oddsOverWithin 23 = .ok (.aload_n 1, 1) := dc1_43 (by decide +kernel)
theorem dX2_oddsOverWithin_24 : decode cX2_oddsOverWithin 24 = .ok (.iload 4, 2) := dcu_21 (by decide +kernel)
theorem dX2_oddsOverWithin_26 : decode cX2_oddsOverWithin 26 = .ok (.invokevirtual 114, 3) := dcw_182 (by decide +kernel)
theorem dX2_oddsOverWithin_29 : decode cX2_oddsOverWithin 29 = .ok (.istore 5, 2) := dcu_54 (by decide +kernel)
theorem dX2_oddsOverWithin_31 : decode cX2_oddsOverWithin 31 = .ok (.iload_n 3, 1) := dc1_29 (by decide +kernel)
theorem dX2_oddsOverWithin_32 : decode cX2_oddsOverWithin 32 = .ok (.iconst 1, 1) := dc1_4 (by decide +kernel)
theorem dX2_oddsOverWithin_33 : decode cX2_oddsOverWithin 33 = .ok (.if_icmp .ne 6, 3) := dcs_160 (n := 6) (by decide +kernel)
theorem dX2_oddsOverWithin_36 : decode cX2_oddsOverWithin 36 = .ok (.iload 5, 2) := dcu_21 (by decide +kernel)
theorem dX2_oddsOverWithin_38 : decode cX2_oddsOverWithin 38 = .ok (.ireturn, 1) := dc1_172 (by decide +kernel)
theorem dX2_oddsOverWithin_39 : decode cX2_oddsOverWithin 39 = .ok (.aload_n 1, 1) := dc1_43 (by decide +kernel)
theorem dX2_oddsOverWithin_40 : decode cX2_oddsOverWithin 40 = .ok (.getfield 117, 3) := dcw_180 (by decide +kernel)
theorem dX2_oddsOverWithin_43 : decode cX2_oddsOverWithin 43 = .ok (.iload_n 2, 1) := dc1_28 (by decide +kernel)
theorem dX2_oddsOverWithin_44 : decode cX2_oddsOverWithin 44 = .ok (.dup2, 1) := dc1_92 (by decide +kernel)
theorem dX2_oddsOverWithin_45 : decode cX2_oddsOverWithin 45 = .ok (.iaload, 1) := dc1_46 (by decide +kernel)
theorem dX2_oddsOverWithin_46 : decode cX2_oddsOverWithin 46 = .ok (.iconst 1, 1) := dc1_4 (by decide +kernel)
theorem dX2_oddsOverWithin_47 : decode cX2_oddsOverWithin 47 = .ok (.iadd, 1) := dc1_96 (by decide +kernel)
theorem dX2_oddsOverWithin_48 : decode cX2_oddsOverWithin 48 = .ok (.iastore, 1) := dc1_79 (by decide +kernel)
theorem dX2_oddsOverWithin_49 : decode cX2_oddsOverWithin 49 = .ok (.iconst 0, 1) := dc1_3 (by decide +kernel)
theorem dX2_oddsOverWithin_50 : decode cX2_oddsOverWithin 50 = .ok (.istore 6, 2) := dcu_54 (by decide +kernel)
theorem dX2_oddsOverWithin_52 : decode cX2_oddsOverWithin 52 = .ok (.iconst 0, 1) := dc1_3 (by decide +kernel)
theorem dX2_oddsOverWithin_53 : decode cX2_oddsOverWithin 53 = .ok (.istore 7, 2) := dcu_54 (by decide +kernel)
theorem dX2_oddsOverWithin_55 : decode cX2_oddsOverWithin 55 = .ok (.iload 7, 2) := dcu_21 (by decide +kernel)
theorem dX2_oddsOverWithin_57 : decode cX2_oddsOverWithin 57 = .ok (.aload_n 0, 1) := dc1_42 (by decide +kernel)
theorem dX2_oddsOverWithin_58 : decode cX2_oddsOverWithin 58 = .ok (.getfield 24, 3) := dcw_180 (by decide +kernel)
theorem dX2_oddsOverWithin_61 : decode cX2_oddsOverWithin 61 = .ok (.getfield 44, 3) := dcw_180 (by decide +kernel)
theorem dX2_oddsOverWithin_64 : decode cX2_oddsOverWithin 64 = .ok (.if_icmp .ge 100, 3) := dcs_162 (n := 100) (by decide +kernel)
theorem dX2_oddsOverWithin_67 : decode cX2_oddsOverWithin 67 = .ok (.iload 4, 2) := dcu_21 (by decide +kernel)
theorem dX2_oddsOverWithin_69 : decode cX2_oddsOverWithin 69 = .ok (.iload 7, 2) := dcu_21 (by decide +kernel)
theorem dX2_oddsOverWithin_71 : decode cX2_oddsOverWithin 71 = .ok (.invokestatic 65, 3) := dcw_184 (by decide +kernel)
theorem dX2_oddsOverWithin_74 : decode cX2_oddsOverWithin 74 = .ok (.istore 8, 2) := dcu_54 (by decide +kernel)
theorem dX2_oddsOverWithin_76 : decode cX2_oddsOverWithin 76 = .ok (.aload_n 0, 1) := dc1_42 (by decide +kernel)
theorem dX2_oddsOverWithin_77 : decode cX2_oddsOverWithin 77 = .ok (.aload_n 1, 1) := dc1_43 (by decide +kernel)
theorem dX2_oddsOverWithin_78 : decode cX2_oddsOverWithin 78 = .ok (.iload 7, 2) := dcu_21 (by decide +kernel)
theorem dX2_oddsOverWithin_80 : decode cX2_oddsOverWithin 80 = .ok (.invokevirtual 50, 3) := dcw_182 (by decide +kernel)
theorem dX2_oddsOverWithin_83 : decode cX2_oddsOverWithin 83 = .ok (.iconst 1, 1) := dc1_4 (by decide +kernel)
theorem dX2_oddsOverWithin_84 : decode cX2_oddsOverWithin 84 = .ok (.if_icmp .le 45, 3) := dcs_164 (n := 45) (by decide +kernel)
theorem dX2_oddsOverWithin_87 : decode cX2_oddsOverWithin 87 = .ok (.aload_n 1, 1) := dc1_43 (by decide +kernel)
theorem dX2_oddsOverWithin_88 : decode cX2_oddsOverWithin 88 = .ok (.getfield 122, 3) := dcw_180 (by decide +kernel)
theorem dX2_oddsOverWithin_91 : decode cX2_oddsOverWithin 91 = .ok (.iload 7, 2) := dcu_21 (by decide +kernel)
theorem dX2_oddsOverWithin_93 : decode cX2_oddsOverWithin 93 = .ok (.dup2, 1) := dc1_92 (by decide +kernel)
theorem dX2_oddsOverWithin_94 : decode cX2_oddsOverWithin 94 = .ok (.iaload, 1) := dc1_46 (by decide +kernel)
theorem dX2_oddsOverWithin_95 : decode cX2_oddsOverWithin 95 = .ok (.iconst 1, 1) := dc1_4 (by decide +kernel)
theorem dX2_oddsOverWithin_96 : decode cX2_oddsOverWithin 96 = .ok (.iload 8, 2) := dcu_21 (by decide +kernel)
theorem dX2_oddsOverWithin_98 : decode cX2_oddsOverWithin 98 = .ok (.ishl, 1) := dc1_120 (by decide +kernel)
theorem dX2_oddsOverWithin_99 : decode cX2_oddsOverWithin 99 = .ok (.ixor, 1) := dc1_130 (by decide +kernel)
theorem dX2_oddsOverWithin_100 : decode cX2_oddsOverWithin 100 = .ok (.iastore, 1) := dc1_79 (by decide +kernel)
theorem dX2_oddsOverWithin_101 : decode cX2_oddsOverWithin 101 = .ok (.iload 5, 2) := dcu_21 (by decide +kernel)
theorem dX2_oddsOverWithin_103 : decode cX2_oddsOverWithin 103 = .ok (.aload_n 0, 1) := dc1_42 (by decide +kernel)
theorem dX2_oddsOverWithin_104 : decode cX2_oddsOverWithin 104 = .ok (.aload_n 1, 1) := dc1_43 (by decide +kernel)
theorem dX2_oddsOverWithin_105 : decode cX2_oddsOverWithin 105 = .ok (.iload_n 2, 1) := dc1_28 (by decide +kernel)
theorem dX2_oddsOverWithin_106 : decode cX2_oddsOverWithin 106 = .ok (.iload_n 3, 1) := dc1_29 (by decide +kernel)
theorem dX2_oddsOverWithin_107 : decode cX2_oddsOverWithin 107 = .ok (.iconst 1, 1) := dc1_4 (by decide +kernel)
theorem dX2_oddsOverWithin_108 : decode cX2_oddsOverWithin 108 = .ok (.isub, 1) := dc1_100 (by decide +kernel)
theorem dX2_oddsOverWithin_109 : decode cX2_oddsOverWithin 109 = .ok (.invokevirtual 125, 3) := dcw_182 (by decide +kernel)
theorem dX2_oddsOverWithin_112 : decode cX2_oddsOverWithin 112 = .ok (.iadd, 1) := dc1_96 (by decide +kernel)
theorem dX2_oddsOverWithin_113 : decode cX2_oddsOverWithin 113 = .ok (.istore 5, 2) := dcu_54 (by decide +kernel)
theorem dX2_oddsOverWithin_115 : decode cX2_oddsOverWithin 115 = .ok (.aload_n 1, 1) := dc1_43 (by decide +kernel)
theorem dX2_oddsOverWithin_116 : decode cX2_oddsOverWithin 116 = .ok (.getfield 122, 3) := dcw_180 (by decide +kernel)
theorem dX2_oddsOverWithin_119 : decode cX2_oddsOverWithin 119 = .ok (.iload 7, 2) := dcu_21 (by decide +kernel)
theorem dX2_oddsOverWithin_121 : decode cX2_oddsOverWithin 121 = .ok (.dup2, 1) := dc1_92 (by decide +kernel)
theorem dX2_oddsOverWithin_122 : decode cX2_oddsOverWithin 122 = .ok (.iaload, 1) := dc1_46 (by decide +kernel)
theorem dX2_oddsOverWithin_123 : decode cX2_oddsOverWithin 123 = .ok (.iconst 1, 1) := dc1_4 (by decide +kernel)
theorem dX2_oddsOverWithin_124 : decode cX2_oddsOverWithin 124 = .ok (.iload 8, 2) := dcu_21 (by decide +kernel)
theorem dX2_oddsOverWithin_126 : decode cX2_oddsOverWithin 126 = .ok (.ishl, 1) := dc1_120 (by decide +kernel)
theorem dX2_oddsOverWithin_127 : decode cX2_oddsOverWithin 127 = .ok (.ixor, 1) := dc1_130 (by decide +kernel)
theorem dX2_oddsOverWithin_128 : decode cX2_oddsOverWithin 128 = .ok (.iastore, 1) := dc1_79 (by decide +kernel)
theorem dX2_oddsOverWithin_129 : decode cX2_oddsOverWithin 129 = .ok (.aload_n 1, 1) := dc1_43 (by decide +kernel)
theorem dX2_oddsOverWithin_130 : decode cX2_oddsOverWithin 130 = .ok (.getfield 128, 3) := dcw_180 (by decide +kernel)
theorem dX2_oddsOverWithin_133 : decode cX2_oddsOverWithin 133 = .ok (.iload 7, 2) := dcu_21 (by decide +kernel)
theorem dX2_oddsOverWithin_135 : decode cX2_oddsOverWithin 135 = .ok (.iaload, 1) := dc1_46 (by decide +kernel)
theorem dX2_oddsOverWithin_136 : decode cX2_oddsOverWithin 136 = .ok (.iconst (-1), 1) := dc1_2 (by decide +kernel)
theorem dX2_oddsOverWithin_137 : decode cX2_oddsOverWithin 137 = .ok (.if_icmp .ne 21, 3) := dcs_160 (n := 21) (by decide +kernel)
theorem dX2_oddsOverWithin_140 : decode cX2_oddsOverWithin 140 = .ok (.aload_n 1, 1) := dc1_43 (by decide +kernel)
theorem dX2_oddsOverWithin_141 : decode cX2_oddsOverWithin 141 = .ok (.getfield 128, 3) := dcw_180 (by decide +kernel)
theorem dX2_oddsOverWithin_144 : decode cX2_oddsOverWithin 144 = .ok (.iload 7, 2) := dcu_21 (by decide +kernel)
theorem dX2_oddsOverWithin_146 : decode cX2_oddsOverWithin 146 = .ok (.iload 8, 2) := dcu_21 (by decide +kernel)
theorem dX2_oddsOverWithin_148 : decode cX2_oddsOverWithin 148 = .ok (.iastore, 1) := dc1_79 (by decide +kernel)
theorem dX2_oddsOverWithin_149 : decode cX2_oddsOverWithin 149 = .ok (.iload 6, 2) := dcu_21 (by decide +kernel)
theorem dX2_oddsOverWithin_151 : decode cX2_oddsOverWithin 151 = .ok (.iconst 1, 1) := dc1_4 (by decide +kernel)
theorem dX2_oddsOverWithin_152 : decode cX2_oddsOverWithin 152 = .ok (.iload 7, 2) := dcu_21 (by decide +kernel)
theorem dX2_oddsOverWithin_154 : decode cX2_oddsOverWithin 154 = .ok (.ishl, 1) := dc1_120 (by decide +kernel)
theorem dX2_oddsOverWithin_155 : decode cX2_oddsOverWithin 155 = .ok (.ior, 1) := dc1_128 (by decide +kernel)
theorem dX2_oddsOverWithin_156 : decode cX2_oddsOverWithin 156 = .ok (.istore 6, 2) := dcu_54 (by decide +kernel)
theorem dX2_oddsOverWithin_158 : decode cX2_oddsOverWithin 158 = .ok (.iinc 7 1, 3) := dc_iinc (m := 1) (by decide +kernel)
theorem dX2_oddsOverWithin_161 : decode cX2_oddsOverWithin 161 = .ok (.goto (-106), 3) := dcs_167 (n := 65430) (by decide +kernel)
theorem dX2_oddsOverWithin_164 : decode cX2_oddsOverWithin 164 = .ok (.aload_n 0, 1) := dc1_42 (by decide +kernel)
theorem dX2_oddsOverWithin_165 : decode cX2_oddsOverWithin 165 = .ok (.aload_n 1, 1) := dc1_43 (by decide +kernel)
theorem dX2_oddsOverWithin_166 : decode cX2_oddsOverWithin 166 = .ok (.iload 6, 2) := dcu_21 (by decide +kernel)
theorem dX2_oddsOverWithin_168 : decode cX2_oddsOverWithin 168 = .ok (.invokevirtual 131, 3) := dcw_182 (by decide +kernel)
theorem dX2_oddsOverWithin_171 : decode cX2_oddsOverWithin 171 = .ok (.aload_n 1, 1) := dc1_43 (by decide +kernel)
theorem dX2_oddsOverWithin_172 : decode cX2_oddsOverWithin 172 = .ok (.getfield 117, 3) := dcw_180 (by decide +kernel)
theorem dX2_oddsOverWithin_175 : decode cX2_oddsOverWithin 175 = .ok (.iload_n 2, 1) := dc1_28 (by decide +kernel)
theorem dX2_oddsOverWithin_176 : decode cX2_oddsOverWithin 176 = .ok (.dup2, 1) := dc1_92 (by decide +kernel)
theorem dX2_oddsOverWithin_177 : decode cX2_oddsOverWithin 177 = .ok (.iaload, 1) := dc1_46 (by decide +kernel)
theorem dX2_oddsOverWithin_178 : decode cX2_oddsOverWithin 178 = .ok (.iconst 1, 1) := dc1_4 (by decide +kernel)
theorem dX2_oddsOverWithin_179 : decode cX2_oddsOverWithin 179 = .ok (.isub, 1) := dc1_100 (by decide +kernel)
theorem dX2_oddsOverWithin_180 : decode cX2_oddsOverWithin 180 = .ok (.iastore, 1) := dc1_79 (by decide +kernel)
theorem dX2_oddsOverWithin_181 : decode cX2_oddsOverWithin 181 = .ok (.iload 5, 2) := dcu_21 (by decide +kernel)
theorem dX2_oddsOverWithin_183 : decode cX2_oddsOverWithin 183 = .ok (.ireturn, 1) := dc1_172 (by decide +kernel)
theorem ggX4_readPart_X4_readSum : GoodIn wsX4_readPart wsX4_readSum := gi_sub (fun w h => List.mem_cons_of_mem _ (List.mem_append_left _ (List.mem_append_left _ (List.mem_append_left _ (List.mem_append_left _ (List.mem_append_right _ (List.mem_append_left _ h))))))) gd_wsX4_readSum
set_option maxRecDepth 20000 in
theorem gX4_readPart_X4_readSum : GoodIn wsX4_readPart (wsV RX4 131 RX4 yX4_readSum wsX4_readSum) := goodIn_app (goodIn_r _ [2, 3, 4, 5] (by decide +kernel) (by decide +kernel)) ggX4_readPart_X4_readSum
theorem ggX4_readPart_X1_endPart : GoodIn wsX4_readPart wsX1_endPart := gi_sub (fun w h => List.mem_cons_of_mem _ (List.mem_append_left _ (List.mem_append_left _ (List.mem_append_left _ (List.mem_append_left _ (List.mem_append_right _ (List.mem_append_right _ (List.mem_append_left _ h)))))))) gd_wsX1_endPart
set_option maxRecDepth 20000 in
theorem gX4_readPart_X1_endPart_n134 : GoodIn wsX4_readPart (wsX1_endPart) := ggX4_readPart_X1_endPart
theorem ggX4_readPart_X4_take : GoodIn wsX4_readPart wsX4_take := gi_sub (fun w h => List.mem_cons_of_mem _ (List.mem_append_left _ (List.mem_append_left _ (List.mem_append_left _ (List.mem_append_left _ (List.mem_append_right _ (List.mem_append_right _ (List.mem_append_right _ h)))))))) gd_wsX4_take
set_option maxRecDepth 20000 in
theorem gX4_readPart_X4_take : GoodIn wsX4_readPart (wsV RX4 81 RX4 yX4_take wsX4_take) := goodIn_app (goodIn_r _ [6, 7, 8, 5] (by decide +kernel) (by decide +kernel)) ggX4_readPart_X4_take
theorem dX4_readPart_0 : decode cX4_readPart 0 = .ok (.aload_n 0, 1) := dc1_42 (by decide +kernel)
theorem dX4_readPart_1 : decode cX4_readPart 1 = .ok (.iconst 0, 1) := dc1_3 (by decide +kernel)
theorem dX4_readPart_2 : decode cX4_readPart 2 = .ok (.invokevirtual 131, 3) := dcw_182 (by decide +kernel)
theorem dX4_readPart_5 : decode cX4_readPart 5 = .ok (.aload_n 0, 1) := dc1_42 (by decide +kernel)
theorem dX4_readPart_6 : decode cX4_readPart 6 = .ok (.getfield 12, 3) := dcw_180 (by decide +kernel)
theorem dX4_readPart_9 : decode cX4_readPart 9 = .ok (.getfield 119, 3) := dcw_180 (by decide +kernel)
theorem dX4_readPart_12 : decode cX4_readPart 12 = .ok (.invokevirtual 134, 3) := dcw_182 (by decide +kernel)
theorem dX4_readPart_15 : decode cX4_readPart 15 = .ok (.aload_n 0, 1) := dc1_42 (by decide +kernel)
theorem dX4_readPart_16 : decode cX4_readPart 16 = .ok (.iload_n 1, 1) := dc1_27 (by decide +kernel)
theorem dX4_readPart_17 : decode cX4_readPart 17 = .ok (.invokevirtual 81, 3) := dcw_182 (by decide +kernel)
theorem dX4_readPart_20 : decode cX4_readPart 20 = .ok (.return_, 1) := dc1_177 (by decide +kernel)
set_option maxRecDepth 20000 in
theorem ggX4_readSum_X4_readProduct : GoodIn wsX4_readSum wsX4_readProduct := goodIn_r _ [32, 1, 2, 3, 33, 34, 35, 7, 8, 9, 10, 11, 12, 13, 14, 15, 16, 17, 18, 19, 20, 21, 22, 23, 24, 25, 26, 27, 28, 29, 30, 31, 0, 4, 5, 6, 36, 37, 38, 39, 40, 41, 42, 43, 44, 45, 46, 47, 48, 49, 50, 51, 52, 53, 54, 55, 56, 57, 58, 59, 60, 61, 62, 63, 64, 65, 66, 67, 68, 69, 70, 71, 72, 73, 74, 75, 76, 77, 78, 79] (by decide +kernel) (by decide +kernel)
set_option maxRecDepth 20000 in
theorem gX4_readSum_X4_readProduct : GoodIn wsX4_readSum (wsV RX4 137 RX4 yX4_readProduct wsX4_readProduct) := goodIn_app (goodIn_of _ (by decide +kernel)) ggX4_readSum_X4_readProduct
set_option maxRecDepth 20000 in
theorem ggX4_readSum_X4_isAt : GoodIn wsX4_readSum wsX4_isAt := goodIn_r _ [11, 12, 1, 2, 46, 47, 48, 49, 50, 51, 52, 53, 54, 55, 56, 57, 58, 59, 60] (by decide +kernel) (by decide +kernel)
set_option maxRecDepth 20000 in
theorem gX4_readSum_X4_isAt : GoodIn wsX4_readSum (wsV RX4 53 RX4 yX4_isAt wsX4_isAt) := goodIn_app (goodIn_of _ (by decide +kernel)) ggX4_readSum_X4_isAt
set_option maxRecDepth 20000 in
theorem ggX4_readSum_X4_take : GoodIn wsX4_readSum wsX4_take := goodIn_r _ [16, 2, 8, 9, 10, 7, 11, 12, 1, 17, 18, 19, 20, 21, 46, 47, 48, 49, 50, 51, 52, 53, 54, 55, 56, 57, 58, 59, 60] (by decide +kernel) (by decide +kernel)
set_option maxRecDepth 20000 in
theorem gX4_readSum_X4_take : GoodIn wsX4_readSum (wsV RX4 81 RX4 yX4_take wsX4_take) := goodIn_app (goodIn_of _ (by decide +kernel)) ggX4_readSum_X4_take
set_option maxRecDepth 20000 in
theorem ggX4_readSum_X1_putSign : GoodIn wsX4_readSum wsX1_putSign := goodIn_r _ [25, 26, 27, 28, 23, 29, 30, 31, 71, 72, 73, 74, 75, 76, 77, 78, 79] (by decide +kernel) (by decide +kernel)
set_option maxRecDepth 20000 in
theorem gX4_readSum_X1_putSign_n140 : GoodIn wsX4_readSum (wsX1_putSign) := ggX4_readSum_X1_putSign
theorem dX4_readSum_0 : decode cX4_readSum 0 = .ok (.aload_n 0, 1) := dc1_42 (by decide +kernel)
theorem dX4_readSum_1 : decode cX4_readSum 1 = .ok (.iload_n 1, 1) := dc1_27 (by decide +kernel)
theorem dX4_readSum_2 : decode cX4_readSum 2 = .ok (.invokevirtual 137, 3) := dcw_182 (by decide +kernel)
theorem dX4_readSum_5 : decode cX4_readSum 5 = .ok (.iconst 0, 1) := dc1_3 (by decide +kernel)
theorem dX4_readSum_6 : decode cX4_readSum 6 = .ok (.istore_n 2, 1) := dc1_61 (by decide +kernel)
theorem dX4_readSum_7 : decode cX4_readSum 7 = .ok (.iload_n 2, 1) := dc1_28 (by decide +kernel)
theorem dX4_readSum_8 : decode cX4_readSum 8 = .ok (.sipush 400, 3) := dcs_17 (n := 400) (by decide +kernel)
theorem dX4_readSum_11 : decode cX4_readSum 11 = .ok (.if_icmp .ge 61, 3) := dcs_162 (n := 61) (by decide +kernel)
theorem dX4_readSum_14 : decode cX4_readSum 14 = .ok (.aload_n 0, 1) := dc1_42 (by decide +kernel)
theorem dX4_readSum_15 : decode cX4_readSum 15 = .ok (.bipush 43, 2) := dcb_16 (n := 43) (by decide +kernel)
theorem dX4_readSum_17 : decode cX4_readSum 17 = .ok (.invokevirtual 53, 3) := dcw_182 (by decide +kernel)
theorem dX4_readSum_20 : decode cX4_readSum 20 = .ok (.ifCond .ne 12, 3) := dcs_154 (n := 12) (by decide +kernel)
theorem dX4_readSum_23 : decode cX4_readSum 23 = .ok (.aload_n 0, 1) := dc1_42 (by decide +kernel)
theorem dX4_readSum_24 : decode cX4_readSum 24 = .ok (.bipush 45, 2) := dcb_16 (n := 45) (by decide +kernel)
theorem dX4_readSum_26 : decode cX4_readSum 26 = .ok (.invokevirtual 53, 3) := dcw_182 (by decide +kernel)
theorem dX4_readSum_29 : decode cX4_readSum 29 = .ok (.ifCond .eq 43, 3) := dcs_153 (n := 43) (by decide +kernel)
theorem dX4_readSum_32 : decode cX4_readSum 32 = .ok (.aload_n 0, 1) := dc1_42 (by decide +kernel)
theorem dX4_readSum_33 : decode cX4_readSum 33 = .ok (.getfield 31, 3) := dcw_180 (by decide +kernel)
theorem dX4_readSum_36 : decode cX4_readSum 36 = .ok (.getfield 63, 3) := dcw_180 (by decide +kernel)
theorem dX4_readSum_39 : decode cX4_readSum 39 = .ok (.aload_n 0, 1) := dc1_42 (by decide +kernel)
theorem dX4_readSum_40 : decode cX4_readSum 40 = .ok (.getfield 38, 3) := dcw_180 (by decide +kernel)
theorem dX4_readSum_43 : decode cX4_readSum 43 = .ok (.iaload, 1) := dc1_46 (by decide +kernel)
theorem dX4_readSum_44 : decode cX4_readSum 44 = .ok (.istore_n 3, 1) := dc1_62 (by decide +kernel)
theorem dX4_readSum_45 : decode cX4_readSum 45 = .ok (.aload_n 0, 1) := dc1_42 (by decide +kernel)
theorem dX4_readSum_46 : decode cX4_readSum 46 = .ok (.iload_n 3, 1) := dc1_29 (by decide +kernel)
theorem dX4_readSum_47 : decode cX4_readSum 47 = .ok (.invokevirtual 81, 3) := dcw_182 (by decide +kernel)
theorem dX4_readSum_50 : decode cX4_readSum 50 = .ok (.aload_n 0, 1) := dc1_42 (by decide +kernel)
theorem dX4_readSum_51 : decode cX4_readSum 51 = .ok (.iload_n 1, 1) := dc1_27 (by decide +kernel)
theorem dX4_readSum_52 : decode cX4_readSum 52 = .ok (.invokevirtual 137, 3) := dcw_182 (by decide +kernel)
theorem dX4_readSum_55 : decode cX4_readSum 55 = .ok (.aload_n 0, 1) := dc1_42 (by decide +kernel)
theorem dX4_readSum_56 : decode cX4_readSum 56 = .ok (.getfield 12, 3) := dcw_180 (by decide +kernel)
theorem dX4_readSum_59 : decode cX4_readSum 59 = .ok (.getfield 119, 3) := dcw_180 (by decide +kernel)
theorem dX4_readSum_62 : decode cX4_readSum 62 = .ok (.iload_n 3, 1) := dc1_29 (by decide +kernel)
theorem dX4_readSum_63 : decode cX4_readSum 63 = .ok (.invokevirtual 140, 3) := dcw_182 (by decide +kernel)
theorem dX4_readSum_66 : decode cX4_readSum 66 = .ok (.iinc 2 1, 3) := dc_iinc (m := 1) (by decide +kernel)
theorem dX4_readSum_69 : decode cX4_readSum 69 = .ok (.goto (-62), 3) := dcs_167 (n := 65474) (by decide +kernel)
theorem dX4_readSum_72 : decode cX4_readSum 72 = .ok (.return_, 1) := dc1_177 (by decide +kernel)
theorem ggX10_go_X10_isHere : GoodIn wsX10_go wsX10_isHere := gi_sub (fun w h => List.mem_cons_of_mem _ (List.mem_append_left _ (List.mem_append_left _ (List.mem_append_left _ (List.mem_append_left _ (List.mem_append_left _ (List.mem_append_left _ (List.mem_append_right _ (List.mem_append_left _ h))))))))) gd_wsX10_isHere
set_option maxRecDepth 20000 in
theorem gX10_go_X10_isHere : GoodIn wsX10_go (wsV RX10 164 RX10 yX10_isHere wsX10_isHere) := goodIn_app (goodIn_r _ [5, 6, 7, 8] (by decide +kernel) (by decide +kernel)) ggX10_go_X10_isHere
theorem ggX10_go_X5_hasGuess : GoodIn wsX10_go wsX5_hasGuess := gi_sub (fun w h => List.mem_cons_of_mem _ (List.mem_append_left _ (List.mem_append_left _ (List.mem_append_left _ (List.mem_append_left _ (List.mem_append_left _ (List.mem_append_left _ (List.mem_append_right _ (List.mem_append_right _ (List.mem_append_left _ h)))))))))) gd_wsX5_hasGuess
set_option maxRecDepth 20000 in
theorem gX10_go_X5_hasGuess_n170 : GoodIn wsX10_go (wsX5_hasGuess) := ggX10_go_X5_hasGuess
theorem ggX10_go_X3_remember : GoodIn wsX10_go wsX3_remember := gi_sub (fun w h => List.mem_cons_of_mem _ (List.mem_append_left _ (List.mem_append_left _ (List.mem_append_left _ (List.mem_append_left _ (List.mem_append_left _ (List.mem_append_left _ (List.mem_append_right _ (List.mem_append_right _ (List.mem_append_right _ (List.mem_append_left _ h))))))))))) gd_wsX3_remember
set_option maxRecDepth 20000 in
theorem gX10_go_X3_remember_n173 : GoodIn wsX10_go (wsX3_remember) := ggX10_go_X3_remember
theorem ggX10_go_X0_sendBy : GoodIn wsX10_go wsX0_sendBy := gi_sub (fun w h => List.mem_cons_of_mem _ (List.mem_append_left _ (List.mem_append_left _ (List.mem_append_left _ (List.mem_append_left _ (List.mem_append_left _ (List.mem_append_left _ (List.mem_append_right _ (List.mem_append_right _ (List.mem_append_right _ (List.mem_append_right _ h))))))))))) gd_wsX0_sendBy
set_option maxRecDepth 20000 in
theorem gX10_go_X0_sendBy_n177 : GoodIn wsX10_go (wsX0_sendBy) := ggX10_go_X0_sendBy
theorem dX10_go_0 : decode cX10_go 0 = .ok (.aload_n 0, 1) := dc1_42 (by decide +kernel)
theorem dX10_go_1 : decode cX10_go 1 = .ok (.iload_n 1, 1) := dc1_27 (by decide +kernel)
theorem dX10_go_2 : decode cX10_go 2 = .ok (.invokevirtual 164, 3) := dcw_182 (by decide +kernel)
theorem dX10_go_5 : decode cX10_go 5 = .ok (.ifCond .eq 24, 3) := dcs_153 (n := 24) (by decide +kernel)
theorem dX10_go_8 : decode cX10_go 8 = .ok (.aload_n 0, 1) := dc1_42 (by decide +kernel)
theorem dX10_go_9 : decode cX10_go 9 = .ok (.getfield 19, 3) := dcw_180 (by decide +kernel)
theorem dX10_go_12 : decode cX10_go 12 = .ok (.getfield 167, 3) := dcw_180 (by decide +kernel)
theorem dX10_go_15 : decode cX10_go 15 = .ok (.ifCond .eq 14, 3) := dcs_153 (n := 14) (by decide +kernel)
theorem dX10_go_18 : decode cX10_go 18 = .ok (.aload_n 0, 1) := dc1_42 (by decide +kernel)
theorem dX10_go_19 : decode cX10_go 19 = .ok (.getfield 19, 3) := dcw_180 (by decide +kernel)
theorem dX10_go_22 : decode cX10_go 22 = .ok (.iload_n 2, 1) := dc1_28 (by decide +kernel)
theorem dX10_go_23 : decode cX10_go 23 = .ok (.invokevirtual 170, 3) := dcw_182 (by decide +kernel)
theorem dX10_go_26 : decode cX10_go 26 = .ok (.ifCond .ne 5, 3) := dcs_154 (n := 5) (by decide +kernel)
theorem dX10_go_29 : decode cX10_go 29 = .ok (.iconst (-1), 1) := dc1_2 (by decide +kernel)
theorem dX10_go_30 : decode cX10_go 30 = .ok (.ireturn, 1) := dc1_172 (by decide +kernel)
theorem dX10_go_31 : decode cX10_go 31 = .ok (.aload_n 0, 1) := dc1_42 (by decide +kernel)
theorem dX10_go_32 : decode cX10_go 32 = .ok (.getfield 45, 3) := dcw_180 (by decide +kernel)
theorem dX10_go_35 : decode cX10_go 35 = .ok (.aload_n 0, 1) := dc1_42 (by decide +kernel)
theorem dX10_go_36 : decode cX10_go 36 = .ok (.getfield 35, 3) := dcw_180 (by decide +kernel)
theorem dX10_go_39 : decode cX10_go 39 = .ok (.invokevirtual 173, 3) := dcw_182 (by decide +kernel)
theorem dX10_go_42 : decode cX10_go 42 = .ok (.aload_n 0, 1) := dc1_42 (by decide +kernel)
theorem dX10_go_43 : decode cX10_go 43 = .ok (.getfield 54, 3) := dcw_180 (by decide +kernel)
theorem dX10_go_46 : decode cX10_go 46 = .ok (.aload_n 0, 1) := dc1_42 (by decide +kernel)
theorem dX10_go_47 : decode cX10_go 47 = .ok (.getfield 35, 3) := dcw_180 (by decide +kernel)
theorem dX10_go_50 : decode cX10_go 50 = .ok (.iload_n 1, 1) := dc1_27 (by decide +kernel)
theorem dX10_go_51 : decode cX10_go 51 = .ok (.iload_n 2, 1) := dc1_28 (by decide +kernel)
theorem dX10_go_52 : decode cX10_go 52 = .ok (.invokevirtual 177, 3) := dcw_182 (by decide +kernel)
theorem dX10_go_55 : decode cX10_go 55 = .ok (.ireturn, 1) := dc1_172 (by decide +kernel)
theorem ggX10_years_X3_remember : GoodIn wsX10_years wsX3_remember := gi_sub (fun w h => List.mem_cons_of_mem _ (List.mem_append_left _ (List.mem_append_left _ (List.mem_append_left _ (List.mem_append_left _ (List.mem_append_left _ (List.mem_append_left _ (List.mem_append_right _ (List.mem_append_left _ h))))))))) gd_wsX3_remember
set_option maxRecDepth 20000 in
theorem gX10_years_X3_remember_n173 : GoodIn wsX10_years (wsX3_remember) := ggX10_years_X3_remember
theorem ggX10_years_X0_passYears : GoodIn wsX10_years wsX0_passYears := gi_sub (fun w h => List.mem_cons_of_mem _ (List.mem_append_left _ (List.mem_append_left _ (List.mem_append_left _ (List.mem_append_left _ (List.mem_append_left _ (List.mem_append_left _ (List.mem_append_right _ (List.mem_append_right _ h))))))))) gd_wsX0_passYears
set_option maxRecDepth 20000 in
theorem gX10_years_X0_passYears_n185 : GoodIn wsX10_years (wsX0_passYears) := ggX10_years_X0_passYears
theorem dX10_years_0 : decode cX10_years 0 = .ok (.iload_n 1, 1) := dc1_27 (by decide +kernel)
theorem dX10_years_1 : decode cX10_years 1 = .ok (.ifCond .lt 9, 3) := dcs_155 (n := 9) (by decide +kernel)
theorem dX10_years_4 : decode cX10_years 4 = .ok (.iload_n 1, 1) := dc1_27 (by decide +kernel)
theorem dX10_years_5 : decode cX10_years 5 = .ok (.bipush 40, 2) := dcb_16 (n := 40) (by decide +kernel)
theorem dX10_years_7 : decode cX10_years 7 = .ok (.if_icmp .le 5, 3) := dcs_164 (n := 5) (by decide +kernel)
theorem dX10_years_10 : decode cX10_years 10 = .ok (.iconst (-1), 1) := dc1_2 (by decide +kernel)
theorem dX10_years_11 : decode cX10_years 11 = .ok (.ireturn, 1) := dc1_172 (by decide +kernel)
theorem dX10_years_12 : decode cX10_years 12 = .ok (.iload_n 1, 1) := dc1_27 (by decide +kernel)
theorem dX10_years_13 : decode cX10_years 13 = .ok (.ifCond .le 26, 3) := dcs_158 (n := 26) (by decide +kernel)
theorem dX10_years_16 : decode cX10_years 16 = .ok (.aload_n 0, 1) := dc1_42 (by decide +kernel)
theorem dX10_years_17 : decode cX10_years 17 = .ok (.getfield 45, 3) := dcw_180 (by decide +kernel)
theorem dX10_years_20 : decode cX10_years 20 = .ok (.aload_n 0, 1) := dc1_42 (by decide +kernel)
theorem dX10_years_21 : decode cX10_years 21 = .ok (.getfield 35, 3) := dcw_180 (by decide +kernel)
theorem dX10_years_24 : decode cX10_years 24 = .ok (.invokevirtual 173, 3) := dcw_182 (by decide +kernel)
theorem dX10_years_27 : decode cX10_years 27 = .ok (.aload_n 0, 1) := dc1_42 (by decide +kernel)
theorem dX10_years_28 : decode cX10_years 28 = .ok (.getfield 54, 3) := dcw_180 (by decide +kernel)
theorem dX10_years_31 : decode cX10_years 31 = .ok (.aload_n 0, 1) := dc1_42 (by decide +kernel)
theorem dX10_years_32 : decode cX10_years 32 = .ok (.getfield 35, 3) := dcw_180 (by decide +kernel)
theorem dX10_years_35 : decode cX10_years 35 = .ok (.iload_n 1, 1) := dc1_27 (by decide +kernel)
theorem dX10_years_36 : decode cX10_years 36 = .ok (.invokevirtual 185, 3) := dcw_182 (by decide +kernel)
theorem dX10_years_39 : decode cX10_years 39 = .ok (.aload_n 0, 1) := dc1_42 (by decide +kernel)
theorem dX10_years_40 : decode cX10_years 40 = .ok (.getfield 35, 3) := dcw_180 (by decide +kernel)
theorem dX10_years_43 : decode cX10_years 43 = .ok (.getfield 189, 3) := dcw_180 (by decide +kernel)
theorem dX10_years_46 : decode cX10_years 46 = .ok (.ireturn, 1) := dc1_172 (by decide +kernel)
theorem LX4_readSum_12 : Cond.fieldLink RX4 12 "GuessFerry$Reader" "draft" "LGuessFerry$Sound;" ∈ wsX4_readSum := by decide +kernel
theorem LX4_readSum_31 : Cond.fieldLink RX4 31 "GuessFerry$Reader" "tokens" "LGuessFerry$Tokens;" ∈ wsX4_readSum := by decide +kernel
theorem LX4_readSum_38 : Cond.fieldLink RX4 38 "GuessFerry$Reader" "at" "I" ∈ wsX4_readSum := by decide +kernel
theorem LX4_readSum_E_X1_putSign : Cond.selects RX1 yX1_putSign yX1_putSign ∈ wsX4_readSum := by decide +kernel
theorem LX4_readSum_I_X1 : Cond.initialized RX1 ∈ wsX4_readSum := by decide +kernel
theorem LX4_readSum_N_X1_putSign : Cond.instanceMethod yX1_putSign ∈ wsX4_readSum := by decide +kernel
theorem inX4_readSum_X4 : ∀ w ∈ u_ws RX4 TX4 8, w ∈ wsX4_readSum := by decide +kernel
theorem inX4_readSum_X5 : ∀ w ∈ u_ws RX5 TX5 10, w ∈ wsX4_readSum := by decide +kernel
theorem inX4_readSum_X9 : ∀ w ∈ u_ws RX9 TX9 7, w ∈ wsX4_readSum := by decide +kernel
set_option maxHeartbeats 4000000 in
set_option maxRecDepth 100000 in
theorem bkX4_readSum_32 {l : Launch} {dC : Nat → ClassId} {dI : Nat → Nat → Nat} {cB cI cJ cZ cS : ClassId} {a : Nat → Nat} {R : KS → Int32 → Option KS} {fr lo : Nat} (hR : ∀ {s : KS} {x1 : Int32} {s' : KS}, R s x1 = some s' → CV l yX4_readSum wsX4_readSum ({ frames := fr, cells := 0, slots := 0, locals := lo }) (dC, dI) (tysA cB cI cJ cZ cS) (wK cB cI cJ cZ cS a s) [.ref (a 28), .int x1] (fun u => u = wK cB cI cJ cZ cS a s')) (hfr : 2 ≤ fr) (hlo : 42 ≤ lo) {as : List Value} {s' : KS} {k7 : KS → Int32 → Int32 → Option KS} (hk7 : ∀ (s : KS) (x1 : Int32) (x2 : Int32), k7 s x1 x2 = some s' → BlkV l yX4_readSum wsX4_readSum ({ frames := fr + 3, cells := 0, slots := 0, locals := lo + 69 }) cX4_readSum 4 none (dC, dI) (tysA cB cI cJ cZ cS) as 7 (wK cB cI cJ cZ cS a s) [(0, .ref (a 28)), (1, .int x1), (2, .int x2)] [] (fun u => u = (wK cB cI cJ cZ cS a s'))) (s : KS) (x1 : Int32) (x2 : Int32) (hB : kX4_readSum_32 R k7 s x1 x2 = some s') : BlkV l yX4_readSum wsX4_readSum ({ frames := fr + 3, cells := 0, slots := 0, locals := lo + 69 }) cX4_readSum 4 none (dC, dI) (tysA cB cI cJ cZ cS) as 32 (wK cB cI cJ cZ cS a s) [(0, .ref (a 28)), (1, .int x1), (2, .int x2)] [] (fun u => u = (wK cB cI cJ cZ cS a s')) := by
  intro p e s0 m below meth c A E H locs ls hP hD hS hl
  obtain ⟨C, hr, hlocks, hA, hK, hN⟩ := id E
  obtain ⟨hx, hb, hml, hown, hts⟩ := id C
  unfold kX4_readSum_32 at hB
  refine lv_aload_n hx hb dX4_readSum_32 rfl (lv_at hl 0 rfl) ?_
  refine q_get (v := .ref (a 30)) C inX4_readSum_X4 hK hP 28 rfl rfl 0 (by decide) rfl LX4_readSum_31 rfl dX4_readSum_33 ?_
  refine q_getN (v := .ref (a 32)) C hN inX4_readSum_X9 hK hP 30 rfl rfl 2 (by decide) rfl nwF_X4_63 rfl dX4_readSum_36 ?_
  refine lv_aload_n hx hb dX4_readSum_39 rfl (lv_at hl 0 rfl) ?_
  refine q_get (v := .int (s.v 15)) C inX4_readSum_X4 hK hP 28 rfl rfl 3 (by decide) rfl LX4_readSum_38 rfl dX4_readSum_40 ?_
  obtain ⟨g1, hB⟩ := guard_inv hB
  refine q_iald (x := ((s.f 32) (Int32.toNatClampNeg (s.v 15)))) C hK hP 32 1 rfl rfl (vpb_in g1) dX4_readSum_43 rfl ?_
  refine lv_istore_n (lv' := [(3, .int ((s.f 32) (Int32.toNatClampNeg (s.v 15)))), (0, .ref (a 28)), (1, .int x1), (2, .int x2)]) hx hb dX4_readSum_44 rfl hl (by decide) rfl (fun ls hl => ?_)
  refine lv_aload_n hx hb dX4_readSum_45 rfl (lv_at hl 1 rfl) ?_
  refine lv_iload_n hx hb dX4_readSum_46 rfl (lv_at hl 0 rfl) ?_
  obtain ⟨s2, hc, hB⟩ := bindP_inv hB
  refine q_govF (va_runV (As := [.int ((s.f 32) (Int32.toNatClampNeg (s.v 15)))]) (rest := []) C (ckX4_take hc _) (cwV 1 hts gX4_readSum_X4_take rfl rfl rfl (by decide +kernel) ⟨by dsimp only; omega, by dsimp only; omega⟩) (q_preV hK hP (ci := 4) (q0 := 28) rfl rfl rfl (q_preF hN hK hP hD)) rfl rfl hl.1 rfl (lv_room (Nat.le_of_ble_eq_true rfl)) dX4_readSum_47 ⟨Nat.le_of_ble_eq_true rfl, Nat.le_of_ble_eq_true rfl⟩) hD hS hA (fun w1 H locs hw hP hD hS => ?_)
  subst hw
  refine lv_aload_n hx hb dX4_readSum_50 rfl (lv_at hl 1 rfl) ?_
  refine lv_iload_n hx hb dX4_readSum_51 rfl (lv_at hl 2 rfl) ?_
  obtain ⟨s3, hc, hB⟩ := bindP_inv hB
  refine q_govF (va_runV (As := [.int x1]) (rest := []) C (ckX4_readProduct hR (by omega) (by omega) hc _) (cwV 1 hts gX4_readSum_X4_readProduct rfl rfl rfl (by decide +kernel) ⟨by dsimp only; omega, by dsimp only; omega⟩) (q_preV hK hP (ci := 4) (q0 := 28) rfl rfl rfl (q_preF hN hK hP hD)) rfl rfl hl.1 rfl (lv_room (Nat.le_of_ble_eq_true rfl)) dX4_readSum_52 ⟨Nat.le_of_ble_eq_true rfl, Nat.le_of_ble_eq_true rfl⟩) hD hS hA (fun w1 H locs hw hP hD hS => ?_)
  subst hw
  refine lv_aload_n hx hb dX4_readSum_55 rfl (lv_at hl 1 rfl) ?_
  refine q_get (v := .ref (a 15)) C inX4_readSum_X4 hK hP 28 rfl rfl 1 (by decide) rfl LX4_readSum_12 rfl dX4_readSum_56 ?_
  refine q_getN (v := .ref (a 21)) C hN inX4_readSum_X5 hK hP 15 rfl rfl 5 (by decide) rfl nwF_X4_119 rfl dX4_readSum_59 ?_
  refine lv_iload_n hx hb dX4_readSum_62 rfl (lv_at hl 0 rfl) ?_
  obtain ⟨s4, hc, hB⟩ := bindP_inv hB
  refine q_govF (va_runVN (As := [.int ((s.f 32) (Int32.toNatClampNeg (s.v 15)))]) (rest := []) C (ckX1_putSign hc _) ⟨va_cnB 1 hts gX4_readSum_X1_putSign_n140 rfl rfl rfl (hN _ nwM_X4_140 rfl) (hts _ LX4_readSum_I_X1) (by decide +kernel) ⟨by dsimp only; omega, by dsimp only; omega⟩, hts _ LX4_readSum_N_X1_putSign, hts _ LX4_readSum_E_X1_putSign⟩ (q_preV hK hP (ci := 1) (q0 := 21) rfl rfl rfl (q_preF hN hK hP hD)) rfl rfl hl.1 rfl (lv_room (Nat.le_of_ble_eq_true rfl)) dX4_readSum_63 ⟨Nat.le_of_ble_eq_true rfl, Nat.le_of_ble_eq_true rfl⟩) hD hS hA (fun w1 H locs hw hP hD hS => ?_)
  subst hw
  refine lv_iinc (v := (x2 + 1)) (lv' := [(2, .int (x2 + 1)), (3, .int ((s.f 32) (Int32.toNatClampNeg (s.v 15)))), (0, .ref (a 28)), (1, .int x1)]) hx hb dX4_readSum_66 hl (k := 3) rfl (rfl) (by decide) rfl (fun ls hl => ?_)
  refine lv_goto (tgt := 7) hx hb dX4_readSum_69 (by decide) ?_
  exact hk7 _ _ _ hB p e s0 m below meth c A E H locs ls hP hD hS (lv_sub hl [2, 3, 0] rfl)
set_option maxHeartbeats 4000000 in
set_option maxRecDepth 100000 in
theorem bkX4_readSum_7 {l : Launch} {dC : Nat → ClassId} {dI : Nat → Nat → Nat} {cB cI cJ cZ cS : ClassId} {a : Nat → Nat} {R : KS → Int32 → Option KS} {fr lo : Nat} (hR : ∀ {s : KS} {x1 : Int32} {s' : KS}, R s x1 = some s' → CV l yX4_readSum wsX4_readSum ({ frames := fr, cells := 0, slots := 0, locals := lo }) (dC, dI) (tysA cB cI cJ cZ cS) (wK cB cI cJ cZ cS a s) [.ref (a 28), .int x1] (fun u => u = wK cB cI cJ cZ cS a s')) (hfr : 2 ≤ fr) (hlo : 42 ≤ lo) {as : List Value} {s' : KS} {k7 : KS → Int32 → Int32 → Option KS} (hk7 : ∀ (s : KS) (x1 : Int32) (x2 : Int32), k7 s x1 x2 = some s' → BlkV l yX4_readSum wsX4_readSum ({ frames := fr + 3, cells := 0, slots := 0, locals := lo + 69 }) cX4_readSum 4 none (dC, dI) (tysA cB cI cJ cZ cS) as 7 (wK cB cI cJ cZ cS a s) [(0, .ref (a 28)), (1, .int x1), (2, .int x2)] [] (fun u => u = (wK cB cI cJ cZ cS a s'))) (s : KS) (x1 : Int32) (x2 : Int32) (hB : kX4_readSum_7 R k7 s x1 x2 = some s') : BlkV l yX4_readSum wsX4_readSum ({ frames := fr + 3, cells := 0, slots := 0, locals := lo + 69 }) cX4_readSum 4 none (dC, dI) (tysA cB cI cJ cZ cS) as 7 (wK cB cI cJ cZ cS a s) [(0, .ref (a 28)), (1, .int x1), (2, .int x2)] [] (fun u => u = (wK cB cI cJ cZ cS a s')) := by
  intro p e s0 m below meth c A E H locs ls hP hD hS hl
  obtain ⟨C, hr, hlocks, hA, hK, hN⟩ := id E
  obtain ⟨hx, hb, hml, hown, hts⟩ := id C
  unfold kX4_readSum_7 at hB
  refine lv_iload_n hx hb dX4_readSum_7 rfl (lv_at hl 2 rfl) ?_
  refine lv_sipush (v := 400) hx hb dX4_readSum_8 (by decide) ?_
  refine lv_icmp_ge (tgt := 72) hx hb dX4_readSum_11 (by decide) (fun c1 => ?_) (fun c1 => ?_)
  · have hB := if_p hB c1
    exact q_vret C hr hlocks hK hP hD hS (Nat.le_of_ble_eq_true rfl) (Nat.le_of_ble_eq_true rfl) dX4_readSum_72 (by cases hB; rfl)
  · have hB := if_n hB c1
    refine lv_aload_n hx hb dX4_readSum_14 rfl (lv_at hl 0 rfl) ?_
    refine lv_bipush (v := 43) hx hb dX4_readSum_15 (by decide) ?_
    obtain ⟨q_, s2, hc, hB⟩ := bindI_inv hB
    refine q_goiF (va_runV (As := [.int 43]) (rest := []) C (ckX4_isAt hc _) (cwV 1 hts gX4_readSum_X4_isAt rfl rfl rfl (by decide +kernel) ⟨by dsimp only; omega, by dsimp only; omega⟩) (q_preV hK hP (ci := 4) (q0 := 28) rfl rfl rfl (q_preF hN hK hP hD)) rfl rfl hl.1 rfl (lv_room (Nat.le_of_ble_eq_true rfl)) dX4_readSum_17 ⟨Nat.le_of_ble_eq_true rfl, Nat.le_of_ble_eq_true rfl⟩) hD hS hA (fun r3 w1 H locs hw hP hD hS => ?_)
    obtain ⟨hq_, hw⟩ := hw; subst hw; subst hq_
    refine lv_if_ne (tgt := 32) hx hb dX4_readSum_20 (by decide) (fun c4 => ?_) (fun c4 => ?_)
    · have hB := if_n hB c4
      exact bkX4_readSum_32 hR hfr hlo (hk7) _ _ _ hB p e s0 m below meth c A E H locs ls hP hD hS (lv_sub hl [0, 1, 2] rfl)
    · have hB := if_p hB c4
      refine lv_aload_n hx hb dX4_readSum_23 rfl (lv_at hl 0 rfl) ?_
      refine lv_bipush (v := 45) hx hb dX4_readSum_24 (by decide) ?_
      obtain ⟨q_, s5, hc, hB⟩ := bindI_inv hB
      refine q_goiF (va_runV (As := [.int 45]) (rest := []) C (ckX4_isAt hc _) (cwV 1 hts gX4_readSum_X4_isAt rfl rfl rfl (by decide +kernel) ⟨by dsimp only; omega, by dsimp only; omega⟩) (q_preV hK hP (ci := 4) (q0 := 28) rfl rfl rfl (q_preF hN hK hP hD)) rfl rfl hl.1 rfl (lv_room (Nat.le_of_ble_eq_true rfl)) dX4_readSum_26 ⟨Nat.le_of_ble_eq_true rfl, Nat.le_of_ble_eq_true rfl⟩) hD hS hA (fun r6 w1 H locs hw hP hD hS => ?_)
      obtain ⟨hq_, hw⟩ := hw; subst hw; subst hq_
      refine lv_if_eq (tgt := 72) hx hb dX4_readSum_29 (by decide) (fun c7 => ?_) (fun c7 => ?_)
      · have hB := if_p hB c7
        exact q_vret C hr hlocks hK hP hD hS (Nat.le_of_ble_eq_true rfl) (Nat.le_of_ble_eq_true rfl) dX4_readSum_72 (by cases hB; rfl)
      · have hB := if_n hB c7
        exact bkX4_readSum_32 hR hfr hlo (hk7) _ _ _ hB p e s0 m below meth c A E H locs ls hP hD hS (lv_sub hl [0, 1, 2] rfl)
theorem bkX4_readSum_7L {l : Launch} {dC : Nat → ClassId} {dI : Nat → Nat → Nat} {cB cI cJ cZ cS : ClassId} {a : Nat → Nat} {R : KS → Int32 → Option KS} {fr lo : Nat} (hR : ∀ {s : KS} {x1 : Int32} {s' : KS}, R s x1 = some s' → CV l yX4_readSum wsX4_readSum ({ frames := fr, cells := 0, slots := 0, locals := lo }) (dC, dI) (tysA cB cI cJ cZ cS) (wK cB cI cJ cZ cS a s) [.ref (a 28), .int x1] (fun u => u = wK cB cI cJ cZ cS a s')) (hfr : 2 ≤ fr) (hlo : 42 ≤ lo) {as : List Value} {s' : KS} : ∀ (n : Nat) (s : KS) (x1 : Int32) (x2 : Int32), kX4_readSum_7L R n s x1 x2 = some s' → BlkV l yX4_readSum wsX4_readSum ({ frames := fr + 3, cells := 0, slots := 0, locals := lo + 69 }) cX4_readSum 4 none (dC, dI) (tysA cB cI cJ cZ cS) as 7 (wK cB cI cJ cZ cS a s) [(0, .ref (a 28)), (1, .int x1), (2, .int x2)] [] (fun u => u = (wK cB cI cJ cZ cS a s')) := by
  intro n
  induction n with
  | zero => intro s x1 x2 hB; exact none_ne hB
  | succ n ih => intro s x1 x2 hB; exact bkX4_readSum_7 hR hfr hlo ih _ _ _ hB
set_option maxHeartbeats 4000000 in
set_option maxRecDepth 100000 in
theorem bkX4_readSum {l : Launch} {dC : Nat → ClassId} {dI : Nat → Nat → Nat} {cB cI cJ cZ cS : ClassId} {a : Nat → Nat} {R : KS → Int32 → Option KS} {fr lo : Nat} (hR : ∀ {s : KS} {x1 : Int32} {s' : KS}, R s x1 = some s' → CV l yX4_readSum wsX4_readSum ({ frames := fr, cells := 0, slots := 0, locals := lo }) (dC, dI) (tysA cB cI cJ cZ cS) (wK cB cI cJ cZ cS a s) [.ref (a 28), .int x1] (fun u => u = wK cB cI cJ cZ cS a s')) (hfr : 2 ≤ fr) (hlo : 42 ≤ lo) {as : List Value} {s' : KS} (s : KS) (x1 : Int32) (hB : kX4_readSum R s x1 = some s') : BlkV l yX4_readSum wsX4_readSum ({ frames := fr + 3, cells := 0, slots := 0, locals := lo + 69 }) cX4_readSum 4 none (dC, dI) (tysA cB cI cJ cZ cS) as 0 (wK cB cI cJ cZ cS a s) [(0, .ref (a 28)), (1, .int x1)] [] (fun u => u = (wK cB cI cJ cZ cS a s')) := by
  intro p e s0 m below meth c A E H locs ls hP hD hS hl
  obtain ⟨C, hr, hlocks, hA, hK, hN⟩ := id E
  obtain ⟨hx, hb, hml, hown, hts⟩ := id C
  unfold kX4_readSum at hB
  refine lv_aload_n hx hb dX4_readSum_0 rfl (lv_at hl 0 rfl) ?_
  refine lv_iload_n hx hb dX4_readSum_1 rfl (lv_at hl 1 rfl) ?_
  obtain ⟨s1, hc, hB⟩ := bindP_inv hB
  refine q_govF (va_runV (As := [.int x1]) (rest := []) C (ckX4_readProduct hR (by omega) (by omega) hc _) (cwV 1 hts gX4_readSum_X4_readProduct rfl rfl rfl (by decide +kernel) ⟨by dsimp only; omega, by dsimp only; omega⟩) (q_preV hK hP (ci := 4) (q0 := 28) rfl rfl rfl (q_preF hN hK hP hD)) rfl rfl hl.1 rfl (lv_room (Nat.le_of_ble_eq_true rfl)) dX4_readSum_2 ⟨Nat.le_of_ble_eq_true rfl, Nat.le_of_ble_eq_true rfl⟩) hD hS hA (fun w1 H locs hw hP hD hS => ?_)
  subst hw
  refine lv_iconst (v := 0) hx hb dX4_readSum_5 (by decide) ?_
  refine lv_istore_n (lv' := [(2, .int 0), (0, .ref (a 28)), (1, .int x1)]) hx hb dX4_readSum_6 rfl hl (by decide) rfl (fun ls hl => ?_)
  exact bkX4_readSum_7L hR hfr hlo fu _ _ _ hB p e s0 m below meth c A E H locs ls hP hD hS (lv_sub hl [1, 2, 0] rfl)
theorem ckX4_readSum {l : Launch} {dC : Nat → ClassId} {dI : Nat → Nat → Nat} {cB cI cJ cZ cS : ClassId} {a : Nat → Nat} {R : KS → Int32 → Option KS} {fr lo : Nat} (hR : ∀ {s : KS} {x1 : Int32} {s' : KS}, R s x1 = some s' → CV l yX4_readSum wsX4_readSum ({ frames := fr, cells := 0, slots := 0, locals := lo }) (dC, dI) (tysA cB cI cJ cZ cS) (wK cB cI cJ cZ cS a s) [.ref (a 28), .int x1] (fun u => u = wK cB cI cJ cZ cS a s')) (hfr : 2 ≤ fr) (hlo : 42 ≤ lo) {s' : KS} {s : KS} {x1 : Int32} (hB : kX4_readSum R s x1 = some s') : CV l yX4_readSum wsX4_readSum ({ frames := fr + 3, cells := 0, slots := 0, locals := lo + 69 }) (dC, dI) (tysA cB cI cJ cZ cS) (wK cB cI cJ cZ cS a s) [.ref (a 28), .int x1] (fun u => u = (wK cB cI cJ cZ cS a s')) :=
  CV_of (cc := cX4_readSum) (maxL := 4) (ret := none) (by decide) rfl (Nat.le_of_ble_eq_true rfl) (bkX4_readSum hR hfr hlo _ _ hB)
theorem ckX4_readSumR {l : Launch} {dC : Nat → ClassId} {dI : Nat → Nat → Nat} {cB cI cJ cZ cS : ClassId} {a : Nat → Nat} : ∀ (n : Nat) {s : KS} {x1 : Int32} {s' : KS}, kX4_readSumR n s x1 = some s' → CV l yX4_readSum wsX4_readSum ({ frames := 2 + 3 * n, cells := 0, slots := 0, locals := 42 + 69 * n }) (dC, dI) (tysA cB cI cJ cZ cS) (wK cB cI cJ cZ cS a s) [.ref (a 28), .int x1] (fun u => u = wK cB cI cJ cZ cS a s') := by
  intro n
  induction n with
  | zero => intro _ _ _ hB; exact none_ne hB
  | succ n ih =>
    intro _ _ _ hB
    have h := ckX4_readSum (R := kX4_readSumR n) ih (by omega) (by omega) hB
    exact h
theorem ckX4_readSum_8 {l : Launch} {dC : Nat → ClassId} {dI : Nat → Nat → Nat} {cB cI cJ cZ cS : ClassId} {a : Nat → Nat} {s : KS} {x1 : Int32} {s' : KS} (hB : kX4_readSumR 8 s x1 = some s') : CV l yX4_readSum wsX4_readSum ({ frames := 26, cells := 0, slots := 0, locals := 594 }) (dC, dI) (tysA cB cI cJ cZ cS) (wK cB cI cJ cZ cS a s) [.ref (a 28), .int x1] (fun u => u = wK cB cI cJ cZ cS a s') := ckX4_readSumR 8 hB
theorem LX10_go_19 : Cond.fieldLink RX10 19 "GuessFerry" "sound" "LGuessFerry$Sound;" ∈ wsX10_go := by decide +kernel
theorem LX10_go_35 : Cond.fieldLink RX10 35 "GuessFerry" "now" "LGuessFerry$Standing;" ∈ wsX10_go := by decide +kernel
theorem LX10_go_45 : Cond.fieldLink RX10 45 "GuessFerry" "past" "LGuessFerry$Past;" ∈ wsX10_go := by decide +kernel
theorem LX10_go_54 : Cond.fieldLink RX10 54 "GuessFerry" "crossing" "LGuessFerry$Crossing;" ∈ wsX10_go := by decide +kernel
theorem LX10_go_E_X0_sendBy : Cond.selects RX0 yX0_sendBy yX0_sendBy ∈ wsX10_go := by decide +kernel
theorem LX10_go_E_X3_remember : Cond.selects RX3 yX3_remember yX3_remember ∈ wsX10_go := by decide +kernel
theorem LX10_go_E_X5_hasGuess : Cond.selects RX5 yX5_hasGuess yX5_hasGuess ∈ wsX10_go := by decide +kernel
theorem LX10_go_I_X0 : Cond.initialized RX0 ∈ wsX10_go := by decide +kernel
theorem LX10_go_I_X3 : Cond.initialized RX3 ∈ wsX10_go := by decide +kernel
theorem LX10_go_I_X5 : Cond.initialized RX5 ∈ wsX10_go := by decide +kernel
theorem LX10_go_N_X0_sendBy : Cond.instanceMethod yX0_sendBy ∈ wsX10_go := by decide +kernel
theorem LX10_go_N_X3_remember : Cond.instanceMethod yX3_remember ∈ wsX10_go := by decide +kernel
theorem LX10_go_N_X5_hasGuess : Cond.instanceMethod yX5_hasGuess ∈ wsX10_go := by decide +kernel
theorem inX10_go_X10 : ∀ w ∈ u_ws RX10 TX10 9, w ∈ wsX10_go := by decide +kernel
theorem inX10_go_X5 : ∀ w ∈ u_ws RX5 TX5 10, w ∈ wsX10_go := by decide +kernel
set_option maxHeartbeats 4000000 in
set_option maxRecDepth 100000 in
theorem bkX10_go {l : Launch} {dC : Nat → ClassId} {dI : Nat → Nat → Nat} {cB cI cJ cZ cS : ClassId} {a b b2 c0 : Nat → Nat} {bb : Nat → Nat → Nat} {as : List Value} {r : Int32} {s' : YS} (s : YS) (x1 : Int32) (x2 : Int32) (hB : kX10_go s x1 x2 = some (r, s')) : BlkI l yX10_go wsX10_go ({ frames := 6, cells := 0, slots := 0, locals := 151 }) cX10_go 3 (some .int) (dC, dI) (tysA cB cI cJ cZ cS) as 0 (wY cB cI cJ cZ cS a b b2 c0 bb s) [(0, .ref (c0 0)), (1, .int x1), (2, .int x2)] [] (fun x u => x = r ∧ u = (wY cB cI cJ cZ cS a b b2 c0 bb s')) := by
  intro p e s0 m below meth c A E H locs ls hP hD hS hl
  obtain ⟨C, hr, hlocks, hA, hK, hN⟩ := id E
  obtain ⟨hx, hb, hml, hown, hts⟩ := id C
  unfold kX10_go at hB
  refine lv_aload_n hx hb dX10_go_0 rfl (lv_at hl 0 rfl) ?_
  refine lv_iload_n hx hb dX10_go_1 rfl (lv_at hl 1 rfl) ?_
  obtain ⟨q_, s1, hc, hB⟩ := bindI_inv hB
  refine q_goiT (wr := []) (va_runV (As := [.int x1]) (rest := []) C (ckX10_isHere hc _) (cwV 1 hts gX10_go_X10_isHere rfl rfl rfl (by decide +kernel) ⟨Nat.le_of_ble_eq_true rfl, Nat.le_of_ble_eq_true rfl⟩) (q_preV hK hP (ci := 10) (q0 := 0) rfl rfl rfl (q_pre hN hK hP hD [0, 1, 2, 3, 4, 5, 6, 7, 8, 9, 10, 11, 12, 13, 14, 15, 16, 17, 18, 19, 20, 21, 22, 23, 24, 25, 26, 27, 28, 29, 30, 31, 32, 33, 34, 35, 36, 37, 38, 39, 40, 41, 42, 43, 44, 45, 46, 47, 48, 49, 50, 51, 52, 53, 54, 55, 56, 57, 58, 59, 60, 61, 62, 63] rfl (by decide))) rfl rfl hl.1 rfl (lv_room (Nat.le_of_ble_eq_true rfl)) dX10_go_2 ⟨Nat.le_of_ble_eq_true rfl, Nat.le_of_ble_eq_true rfl⟩) hP hD hS hA [0, 1, 2, 3, 4, 5, 6, 7, 8, 9, 10, 11, 12, 13, 14, 15, 16, 17, 18, 19, 20, 21, 22, 23, 24, 25, 26, 27, 28, 29, 30, 31, 32, 33, 34, 35, 36, 37, 38, 39, 40, 41, 42, 43, 44, 45, 46, 47, 48, 49, 50, 51, 52, 53, 54, 55, 56, 57, 58, 59, 60, 61, 62, 63] [] rfl rfl (by decide) (by decide) (fun r2 w1 H locs hw hP hD hS => ?_)
  obtain ⟨hq_, hw⟩ := hw; subst hw; subst hq_
  obtain ⟨s3, hs4, hB⟩ := letS_inv hB
  have hP : va_P (dC, dI) vwCl (wY cB cI cJ cZ cS a b b2 c0 bb s3) H := by subst hs4; exact hP
  have hD : va_D A (wY cB cI cJ cZ cS a b b2 c0 bb s3) := by subst hs4; exact hD
  refine lv_if_eq (tgt := 29) hx hb dX10_go_5 (by decide) (fun c5 => ?_) (fun c5 => ?_)
  · have hB := if_p hB c5
    refine lv_iconst (v := (-1)) hx hb dX10_go_29 (by decide) ?_
    exact q_iret C hr hlocks hK hP hD hS (Nat.le_of_ble_eq_true rfl) (Nat.le_of_ble_eq_true rfl) dX10_go_30 (by cases hB; exact ⟨rfl, rfl⟩)
  · have hB := if_n hB c5
    refine lv_aload_n hx hb dX10_go_8 rfl (lv_at hl 0 rfl) ?_
    refine q_get (v := .ref (a 2)) C inX10_go_X10 hK hP 0 rfl rfl 1 (by decide) rfl LX10_go_19 rfl dX10_go_9 ?_
    refine q_getN (v := .int (s3.x.k.v 1)) C hN inX10_go_X5 hK hP 19 rfl rfl 6 (by decide) rfl nwF_X10_167 rfl dX10_go_12 ?_
    refine lv_if_eq (tgt := 29) hx hb dX10_go_15 (by decide) (fun c6 => ?_) (fun c6 => ?_)
    · have hB := if_p hB c6
      refine lv_iconst (v := (-1)) hx hb dX10_go_29 (by decide) ?_
      exact q_iret C hr hlocks hK hP hD hS (Nat.le_of_ble_eq_true rfl) (Nat.le_of_ble_eq_true rfl) dX10_go_30 (by cases hB; exact ⟨rfl, rfl⟩)
    · have hB := if_n hB c6
      refine lv_aload_n hx hb dX10_go_18 rfl (lv_at hl 0 rfl) ?_
      refine q_get (v := .ref (a 2)) C inX10_go_X10 hK hP 0 rfl rfl 1 (by decide) rfl LX10_go_19 rfl dX10_go_19 ?_
      refine lv_iload_n hx hb dX10_go_22 rfl (lv_at hl 2 rfl) ?_
      obtain ⟨q_, s7, hc, hB⟩ := bindI_inv hB
      refine q_goiT (wr := ((wG cZ cS a b b2 c0 (rgP bb) (slP bb) s3.x.g) ++ (wD cI b2 s3.x.t) ++ (wD cI b s3.x.n))) (va_runVN (As := [.int x2]) (rest := []) C (ckX5_hasGuess hc _) ⟨va_cnB 1 hts gX10_go_X5_hasGuess_n170 rfl rfl rfl (hN _ nwM_X10_170 rfl) (hts _ LX10_go_I_X5) (by decide +kernel) ⟨Nat.le_of_ble_eq_true rfl, Nat.le_of_ble_eq_true rfl⟩, hts _ LX10_go_N_X5_hasGuess, hts _ LX10_go_E_X5_hasGuess⟩ (q_preV hK hP (ci := 5) (q0 := 19) rfl rfl rfl (q_pre hN hK hP hD [17, 18, 19, 20, 21, 22, 23, 24, 25, 26, 27, 28, 29, 30, 31, 32, 33, 34, 35, 36, 37, 38, 39, 40, 41, 42, 43, 44, 45, 46, 47, 48, 49, 50, 51, 52, 53, 54, 55, 56, 57, 58, 59, 60, 61, 62, 63] rfl (by decide))) rfl rfl hl.1 rfl (lv_room (Nat.le_of_ble_eq_true rfl)) dX10_go_23 ⟨Nat.le_of_ble_eq_true rfl, Nat.le_of_ble_eq_true rfl⟩) hP hD hS hA [17, 18, 19, 20, 21, 22, 23, 24, 25, 26, 27, 28, 29, 30, 31, 32, 33, 34, 35, 36, 37, 38, 39, 40, 41, 42, 43, 44, 45, 46, 47, 48, 49, 50, 51, 52, 53, 54, 55, 56, 57, 58, 59, 60, 61, 62, 63] [0, 1, 2, 3, 4, 5, 6, 7, 8, 9, 10, 11, 12, 13, 14, 15, 16] rfl rfl (by decide) (by decide) (fun r8 w1 H locs hw hP hD hS => ?_)
      obtain ⟨hq_, hw⟩ := hw; subst hw; subst hq_
      obtain ⟨s9, hs10, hB⟩ := letS_inv hB
      have hP : va_P (dC, dI) vwCl (wY cB cI cJ cZ cS a b b2 c0 bb s9) H := by subst hs10; exact hP
      have hD : va_D A (wY cB cI cJ cZ cS a b b2 c0 bb s9) := by subst hs10; exact hD
      refine lv_if_ne (tgt := 31) hx hb dX10_go_26 (by decide) (fun c11 => ?_) (fun c11 => ?_)
      · have hB := if_n hB c11
        refine lv_aload_n hx hb dX10_go_31 rfl (lv_at hl 0 rfl) ?_
        refine q_get (v := .ref (c0 1)) C inX10_go_X10 hK hP 0 rfl rfl 5 (by decide) rfl LX10_go_45 rfl dX10_go_32 ?_
        refine lv_aload_n hx hb dX10_go_35 rfl (lv_at hl 0 rfl) ?_
        refine q_get (v := .ref (b 0)) C inX10_go_X10 hK hP 0 rfl rfl 3 (by decide) rfl LX10_go_35 rfl dX10_go_36 ?_
        obtain ⟨s12, hc, hB⟩ := bindP_inv hB
        refine q_govP (wr := ((wD cI b2 s9.x.t) ++ (wK cB cI cJ cZ cS a s9.x.k))) (va_runVN (As := [.ref (b 0)]) (rest := []) C (ckX3_remember hc _) ⟨va_cnB 1 hts gX10_go_X3_remember_n173 rfl rfl rfl (hN _ nwM_X10_173 rfl) (hts _ LX10_go_I_X3) (by decide +kernel) ⟨Nat.le_of_ble_eq_true rfl, Nat.le_of_ble_eq_true rfl⟩, hts _ LX10_go_N_X3_remember, hts _ LX10_go_E_X3_remember⟩ (q_preV hK hP (ci := 3) (q0 := 1) rfl rfl rfl (q_preP hN hK hP hD [0, 1, 2, 3, 4, 11, 12, 13, 14, 15, 16] rfl (by decide))) rfl rfl hl.1 rfl (lv_room (Nat.le_of_ble_eq_true rfl)) dX10_go_39 ⟨Nat.le_of_ble_eq_true rfl, Nat.le_of_ble_eq_true rfl⟩) hP hD hS hA [0, 1, 2, 3, 4, 11, 12, 13, 14, 15, 16] [5, 6, 7, 8, 9, 10, 17, 18, 19, 20, 21, 22, 23, 24, 25, 26, 27, 28, 29, 30, 31, 32, 33, 34, 35, 36, 37, 38, 39, 40, 41, 42, 43, 44, 45, 46, 47, 48, 49, 50, 51, 52, 53, 54, 55, 56, 57, 58, 59, 60, 61, 62, 63] rfl rfl (by decide) (by decide) (fun H locs hP hD hS => ?_)
        obtain ⟨s13, hs14, hB⟩ := letS_inv hB
        have hP : va_P (dC, dI) vwCl (wY cB cI cJ cZ cS a b b2 c0 bb s13) H := by subst hs14; exact hP.part [53, 54, 55, 56, 57, 0, 1, 2, 3, 4, 5, 58, 59, 60, 61, 62, 63, 6, 7, 8, 9, 10, 11, 12, 13, 14, 15, 16, 17, 18, 19, 20, 21, 22, 23, 24, 25, 26, 27, 28, 29, 30, 31, 32, 33, 34, 35, 36, 37, 38, 39, 40, 41, 42, 43, 44, 45, 46, 47, 48, 49, 50, 51, 52] rfl
        have hD : va_D A (wY cB cI cJ cZ cS a b b2 c0 bb s13) := by subst hs14; exact hD.part [53, 54, 55, 56, 57, 0, 1, 2, 3, 4, 5, 58, 59, 60, 61, 62, 63, 6, 7, 8, 9, 10, 11, 12, 13, 14, 15, 16, 17, 18, 19, 20, 21, 22, 23, 24, 25, 26, 27, 28, 29, 30, 31, 32, 33, 34, 35, 36, 37, 38, 39, 40, 41, 42, 43, 44, 45, 46, 47, 48, 49, 50, 51, 52] (by decide) rfl
        refine lv_aload_n hx hb dX10_go_42 rfl (lv_at hl 0 rfl) ?_
        refine q_get (v := .ref (a 35)) C inX10_go_X10 hK hP 0 rfl rfl 6 (by decide) rfl LX10_go_54 rfl dX10_go_43 ?_
        refine lv_aload_n hx hb dX10_go_46 rfl (lv_at hl 0 rfl) ?_
        refine q_get (v := .ref (b 0)) C inX10_go_X10 hK hP 0 rfl rfl 3 (by decide) rfl LX10_go_35 rfl dX10_go_47 ?_
        refine lv_iload_n hx hb dX10_go_50 rfl (lv_at hl 1 rfl) ?_
        refine lv_iload_n hx hb dX10_go_51 rfl (lv_at hl 2 rfl) ?_
        obtain ⟨q_, s15, hc, hB⟩ := bindI_inv hB
        refine q_goiT (wr := ((wG cZ cS a b b2 c0 (rgP bb) (slP bb) s13.x.g) ++ (wD cI b2 s13.x.t))) (va_runVN (As := [.ref (b 0), .int x1, .int x2]) (rest := []) C (ckX0_sendBy hc _) ⟨va_cnB 3 hts gX10_go_X0_sendBy_n177 rfl rfl rfl (hN _ nwM_X10_177 rfl) (hts _ LX10_go_I_X0) (by decide +kernel) ⟨Nat.le_of_ble_eq_true rfl, Nat.le_of_ble_eq_true rfl⟩, hts _ LX10_go_N_X0_sendBy, hts _ LX10_go_E_X0_sendBy⟩ (q_preV hK hP (ci := 0) (q0 := 52) rfl rfl rfl (q_pre hN hK hP hD [11, 12, 13, 14, 15, 16, 17, 18, 19, 20, 21, 22, 23, 24, 25, 26, 27, 28, 29, 30, 31, 32, 33, 34, 35, 36, 37, 38, 39, 40, 41, 42, 43, 44, 45, 46, 47, 48, 49, 50, 51, 52, 53, 54, 55, 56, 57, 58, 59, 60, 61, 62, 63] rfl (by decide))) rfl rfl hl.1 rfl (lv_room (Nat.le_of_ble_eq_true rfl)) dX10_go_52 ⟨Nat.le_of_ble_eq_true rfl, Nat.le_of_ble_eq_true rfl⟩) hP hD hS hA [11, 12, 13, 14, 15, 16, 17, 18, 19, 20, 21, 22, 23, 24, 25, 26, 27, 28, 29, 30, 31, 32, 33, 34, 35, 36, 37, 38, 39, 40, 41, 42, 43, 44, 45, 46, 47, 48, 49, 50, 51, 52, 53, 54, 55, 56, 57, 58, 59, 60, 61, 62, 63] [0, 1, 2, 3, 4, 5, 6, 7, 8, 9, 10] rfl rfl (by decide) (by decide) (fun r16 w1 H locs hw hP hD hS => ?_)
        obtain ⟨hq_, hw⟩ := hw; subst hw; subst hq_
        obtain ⟨s17, hs18, hB⟩ := letS_inv hB
        have hP : va_P (dC, dI) vwCl (wY cB cI cJ cZ cS a b b2 c0 bb s17) H := by subst hs18; exact hP
        have hD : va_D A (wY cB cI cJ cZ cS a b b2 c0 bb s17) := by subst hs18; exact hD
        exact q_iret C hr hlocks hK hP hD hS (Nat.le_of_ble_eq_true rfl) (Nat.le_of_ble_eq_true rfl) dX10_go_55 (by cases hB; exact ⟨rfl, rfl⟩)
      · have hB := if_p hB c11
        refine lv_iconst (v := (-1)) hx hb dX10_go_29 (by decide) ?_
        exact q_iret C hr hlocks hK hP hD hS (Nat.le_of_ble_eq_true rfl) (Nat.le_of_ble_eq_true rfl) dX10_go_30 (by cases hB; exact ⟨rfl, rfl⟩)
theorem ckX10_go {l : Launch} {dC : Nat → ClassId} {dI : Nat → Nat → Nat} {cB cI cJ cZ cS : ClassId} {a b b2 c0 : Nat → Nat} {bb : Nat → Nat → Nat} {r : Int32} {s' : YS} {s : YS} {x1 : Int32} {x2 : Int32} (hB : kX10_go s x1 x2 = some (r, s')) : CI l yX10_go wsX10_go ({ frames := 6, cells := 0, slots := 0, locals := 151 }) (dC, dI) (tysA cB cI cJ cZ cS) (wY cB cI cJ cZ cS a b b2 c0 bb s) [.ref (c0 0), .int x1, .int x2] (fun x u => x = r ∧ u = (wY cB cI cJ cZ cS a b b2 c0 bb s')) :=
  CI_of (cc := cX10_go) (maxL := 3) (ret := (some .int)) (by decide) rfl (Nat.le_of_ble_eq_true rfl) (bkX10_go _ _ _ hB)
theorem LX2_oddsOverWithin_24 : Cond.fieldLink RX2 24 "GuessFerry$Outlook" "sound" "LGuessFerry$Sound;" ∈ wsX2_oddsOverWithin := by decide +kernel
theorem LX2_oddsOverWithin_I_X10 : Cond.initialized RX10 ∈ wsX2_oddsOverWithin := by decide +kernel
theorem LX2_oddsOverWithin_S_X10_thingIn : Cond.static yX10_thingIn ∈ wsX2_oddsOverWithin := by decide +kernel
theorem inX2_oddsOverWithin_X2 : ∀ w ∈ u_ws RX2 TX2 6, w ∈ wsX2_oddsOverWithin := by decide +kernel
theorem inX2_oddsOverWithin_X5 : ∀ w ∈ u_ws RX5 TX5 10, w ∈ wsX2_oddsOverWithin := by decide +kernel
theorem inX2_oddsOverWithin_X6 : ∀ w ∈ u_ws RX6 TX6 7, w ∈ wsX2_oddsOverWithin := by decide +kernel
set_option maxHeartbeats 4000000 in
set_option maxRecDepth 100000 in
theorem bkX2_oddsOverWithin_158 {l : Launch} {dC : Nat → ClassId} {dI : Nat → Nat → Nat} {cB cI cJ cZ cS : ClassId} {a b : Nat → Nat} {R : JS → Int32 → Int32 → Option (Int32 × JS)} {fr lo : Nat} (hR : ∀ {s : JS} {x2 x3 r : Int32} {s' : JS}, R s x2 x3 = some (r, s') → CI l yX2_oddsOverWithin wsX2_oddsOverWithin ({ frames := fr, cells := 0, slots := 0, locals := lo }) (dC, dI) (tysA cB cI cJ cZ cS) (wJ cB cI cJ cZ cS a b s) [.ref (a 36), .ref (b 0), .int x2, .int x3] (fun x u => x = r ∧ u = wJ cB cI cJ cZ cS a b s')) (hfr : 6 ≤ fr) (hlo : 152 ≤ lo) {as : List Value} {r : Int32} {s' : JS} {k55 : JS → Int32 → Int32 → Int32 → Int32 → Int32 → Int32 → Option (Int32 × JS)} (hk55 : ∀ (s : JS) (x2 : Int32) (x3 : Int32) (x4 : Int32) (x5 : Int32) (x6 : Int32) (x7 : Int32), k55 s x2 x3 x4 x5 x6 x7 = some (r, s') → BlkI l yX2_oddsOverWithin wsX2_oddsOverWithin ({ frames := fr + 1, cells := 0, slots := 0, locals := lo + 28 }) cX2_oddsOverWithin 9 (some .int) (dC, dI) (tysA cB cI cJ cZ cS) as 55 (wJ cB cI cJ cZ cS a b s) [(0, .ref (a 36)), (1, .ref (b 0)), (2, .int x2), (3, .int x3), (4, .int x4), (5, .int x5), (6, .int x6), (7, .int x7)] [] (fun x u => x = r ∧ u = (wJ cB cI cJ cZ cS a b s'))) (s : JS) (x2 : Int32) (x3 : Int32) (x4 : Int32) (x5 : Int32) (x6 : Int32) (x7 : Int32) (hB : kX2_oddsOverWithin_158 R k55 s x2 x3 x4 x5 x6 x7 = some (r, s')) : BlkI l yX2_oddsOverWithin wsX2_oddsOverWithin ({ frames := fr + 1, cells := 0, slots := 0, locals := lo + 28 }) cX2_oddsOverWithin 9 (some .int) (dC, dI) (tysA cB cI cJ cZ cS) as 158 (wJ cB cI cJ cZ cS a b s) [(0, .ref (a 36)), (1, .ref (b 0)), (2, .int x2), (3, .int x3), (4, .int x4), (5, .int x5), (6, .int x6), (7, .int x7)] [] (fun x u => x = r ∧ u = (wJ cB cI cJ cZ cS a b s')) := by
  intro p e s0 m below meth c A E H locs ls hP hD hS hl
  obtain ⟨C, hr, hlocks, hA, hK, hN⟩ := id E
  obtain ⟨hx, hb, hml, hown, hts⟩ := id C
  unfold kX2_oddsOverWithin_158 at hB
  refine lv_iinc (v := (x7 + 1)) (lv' := [(7, .int (x7 + 1)), (0, .ref (a 36)), (1, .ref (b 0)), (2, .int x2), (3, .int x3), (4, .int x4), (5, .int x5), (6, .int x6)]) hx hb dX2_oddsOverWithin_158 hl (k := 7) rfl (rfl) (by decide) rfl (fun ls hl => ?_)
  refine lv_goto (tgt := 55) hx hb dX2_oddsOverWithin_161 (by decide) ?_
  exact hk55 _ _ _ _ _ _ _ hB p e s0 m below meth c A E H locs ls hP hD hS (lv_sub hl [1, 2, 3, 4, 5, 6, 7, 0] rfl)
set_option maxHeartbeats 4000000 in
set_option maxRecDepth 100000 in
theorem bkX2_oddsOverWithin_129 {l : Launch} {dC : Nat → ClassId} {dI : Nat → Nat → Nat} {cB cI cJ cZ cS : ClassId} {a b : Nat → Nat} {R : JS → Int32 → Int32 → Option (Int32 × JS)} {fr lo : Nat} (hR : ∀ {s : JS} {x2 x3 r : Int32} {s' : JS}, R s x2 x3 = some (r, s') → CI l yX2_oddsOverWithin wsX2_oddsOverWithin ({ frames := fr, cells := 0, slots := 0, locals := lo }) (dC, dI) (tysA cB cI cJ cZ cS) (wJ cB cI cJ cZ cS a b s) [.ref (a 36), .ref (b 0), .int x2, .int x3] (fun x u => x = r ∧ u = wJ cB cI cJ cZ cS a b s')) (hfr : 6 ≤ fr) (hlo : 152 ≤ lo) {as : List Value} {r : Int32} {s' : JS} {k55 : JS → Int32 → Int32 → Int32 → Int32 → Int32 → Int32 → Option (Int32 × JS)} (hk55 : ∀ (s : JS) (x2 : Int32) (x3 : Int32) (x4 : Int32) (x5 : Int32) (x6 : Int32) (x7 : Int32), k55 s x2 x3 x4 x5 x6 x7 = some (r, s') → BlkI l yX2_oddsOverWithin wsX2_oddsOverWithin ({ frames := fr + 1, cells := 0, slots := 0, locals := lo + 28 }) cX2_oddsOverWithin 9 (some .int) (dC, dI) (tysA cB cI cJ cZ cS) as 55 (wJ cB cI cJ cZ cS a b s) [(0, .ref (a 36)), (1, .ref (b 0)), (2, .int x2), (3, .int x3), (4, .int x4), (5, .int x5), (6, .int x6), (7, .int x7)] [] (fun x u => x = r ∧ u = (wJ cB cI cJ cZ cS a b s'))) (s : JS) (x2 : Int32) (x3 : Int32) (x4 : Int32) (x5 : Int32) (x6 : Int32) (x7 : Int32) (x8 : Int32) (hB : kX2_oddsOverWithin_129 R k55 s x2 x3 x4 x5 x6 x7 x8 = some (r, s')) : BlkI l yX2_oddsOverWithin wsX2_oddsOverWithin ({ frames := fr + 1, cells := 0, slots := 0, locals := lo + 28 }) cX2_oddsOverWithin 9 (some .int) (dC, dI) (tysA cB cI cJ cZ cS) as 129 (wJ cB cI cJ cZ cS a b s) [(0, .ref (a 36)), (1, .ref (b 0)), (2, .int x2), (3, .int x3), (4, .int x4), (5, .int x5), (6, .int x6), (7, .int x7), (8, .int x8)] [] (fun x u => x = r ∧ u = (wJ cB cI cJ cZ cS a b s')) := by
  intro p e s0 m below meth c A E H locs ls hP hD hS hl
  obtain ⟨C, hr, hlocks, hA, hK, hN⟩ := id E
  obtain ⟨hx, hb, hml, hown, hts⟩ := id C
  unfold kX2_oddsOverWithin_129 at hB
  refine lv_aload_n hx hb dX2_oddsOverWithin_129 rfl (lv_at hl 1 rfl) ?_
  refine q_getN (v := .ref (b 1)) C hN inX2_oddsOverWithin_X6 hK hP 0 rfl rfl 0 (by decide) rfl nwF_X2_128 rfl dX2_oddsOverWithin_130 ?_
  refine lv_iload hx hb dX2_oddsOverWithin_133 (lv_at hl 7 rfl) ?_
  obtain ⟨g1, hB⟩ := guard_inv hB
  refine q_iald (x := ((s.d.f 0) (Int32.toNatClampNeg x7))) C hK hP 1 1 rfl rfl (vpb_in g1) dX2_oddsOverWithin_135 rfl ?_
  refine lv_iconst (v := (-1)) hx hb dX2_oddsOverWithin_136 (by decide) ?_
  refine lv_icmp_ne (tgt := 158) hx hb dX2_oddsOverWithin_137 (by decide) (fun c2 => ?_) (fun c2 => ?_)
  · have hB := if_n hB c2
    exact bkX2_oddsOverWithin_158 hR hfr hlo (hk55) _ _ _ _ _ _ _ hB p e s0 m below meth c A E H locs ls hP hD hS (lv_sub hl [0, 1, 2, 3, 4, 5, 6, 7] rfl)
  · have hB := if_p hB c2
    refine lv_aload_n hx hb dX2_oddsOverWithin_140 rfl (lv_at hl 1 rfl) ?_
    refine q_getN (v := .ref (b 1)) C hN inX2_oddsOverWithin_X6 hK hP 0 rfl rfl 0 (by decide) rfl nwF_X2_128 rfl dX2_oddsOverWithin_141 ?_
    refine lv_iload hx hb dX2_oddsOverWithin_144 (lv_at hl 7 rfl) ?_
    refine lv_iload hx hb dX2_oddsOverWithin_146 (lv_at hl 8 rfl) ?_
    obtain ⟨g3, hB⟩ := guard_inv hB
    obtain ⟨s4, hs5, hB⟩ := letS_inv hB
    refine q_iast (f2 := (upd (s.d.f 0) (Int32.toNatClampNeg x7) x8)) (w2 := (wJ cB cI cJ cZ cS a b s4)) C hK hP hD hS 1 1 rfl rfl (vpb_in g3) dX2_oddsOverWithin_148 rfl (by subst hs5; rfl) (fun H locs hP hD hS => ?_)
    refine lv_iload hx hb dX2_oddsOverWithin_149 (lv_at hl 6 rfl) ?_
    refine lv_iconst (v := 1) hx hb dX2_oddsOverWithin_151 (by decide) ?_
    refine lv_iload hx hb dX2_oddsOverWithin_152 (lv_at hl 7 rfl) ?_
    refine lv_ishl hx hb dX2_oddsOverWithin_154 ?_
    refine lv_ior hx hb dX2_oddsOverWithin_155 ?_
    refine lv_istore (lv' := [(6, .int (x6 ||| (1 <<< (x7 &&& 31)))), (0, .ref (a 36)), (1, .ref (b 0)), (2, .int x2), (3, .int x3), (4, .int x4), (5, .int x5), (7, .int x7), (8, .int x8)]) hx hb dX2_oddsOverWithin_156 hl (by decide) rfl (fun ls hl => ?_)
    exact bkX2_oddsOverWithin_158 hR hfr hlo (hk55) _ _ _ _ _ _ _ hB p e s0 m below meth c A E H locs ls hP hD hS (lv_sub hl [1, 2, 3, 4, 5, 6, 0, 7] rfl)
set_option maxHeartbeats 4000000 in
set_option maxRecDepth 100000 in
theorem bkX2_oddsOverWithin_55 {l : Launch} {dC : Nat → ClassId} {dI : Nat → Nat → Nat} {cB cI cJ cZ cS : ClassId} {a b : Nat → Nat} {R : JS → Int32 → Int32 → Option (Int32 × JS)} {fr lo : Nat} (hR : ∀ {s : JS} {x2 x3 r : Int32} {s' : JS}, R s x2 x3 = some (r, s') → CI l yX2_oddsOverWithin wsX2_oddsOverWithin ({ frames := fr, cells := 0, slots := 0, locals := lo }) (dC, dI) (tysA cB cI cJ cZ cS) (wJ cB cI cJ cZ cS a b s) [.ref (a 36), .ref (b 0), .int x2, .int x3] (fun x u => x = r ∧ u = wJ cB cI cJ cZ cS a b s')) (hfr : 6 ≤ fr) (hlo : 152 ≤ lo) {as : List Value} {r : Int32} {s' : JS} {k55 : JS → Int32 → Int32 → Int32 → Int32 → Int32 → Int32 → Option (Int32 × JS)} (hk55 : ∀ (s : JS) (x2 : Int32) (x3 : Int32) (x4 : Int32) (x5 : Int32) (x6 : Int32) (x7 : Int32), k55 s x2 x3 x4 x5 x6 x7 = some (r, s') → BlkI l yX2_oddsOverWithin wsX2_oddsOverWithin ({ frames := fr + 1, cells := 0, slots := 0, locals := lo + 28 }) cX2_oddsOverWithin 9 (some .int) (dC, dI) (tysA cB cI cJ cZ cS) as 55 (wJ cB cI cJ cZ cS a b s) [(0, .ref (a 36)), (1, .ref (b 0)), (2, .int x2), (3, .int x3), (4, .int x4), (5, .int x5), (6, .int x6), (7, .int x7)] [] (fun x u => x = r ∧ u = (wJ cB cI cJ cZ cS a b s'))) (s : JS) (x2 : Int32) (x3 : Int32) (x4 : Int32) (x5 : Int32) (x6 : Int32) (x7 : Int32) (hB : kX2_oddsOverWithin_55 R k55 s x2 x3 x4 x5 x6 x7 = some (r, s')) : BlkI l yX2_oddsOverWithin wsX2_oddsOverWithin ({ frames := fr + 1, cells := 0, slots := 0, locals := lo + 28 }) cX2_oddsOverWithin 9 (some .int) (dC, dI) (tysA cB cI cJ cZ cS) as 55 (wJ cB cI cJ cZ cS a b s) [(0, .ref (a 36)), (1, .ref (b 0)), (2, .int x2), (3, .int x3), (4, .int x4), (5, .int x5), (6, .int x6), (7, .int x7)] [] (fun x u => x = r ∧ u = (wJ cB cI cJ cZ cS a b s')) := by
  intro p e s0 m below meth c A E H locs ls hP hD hS hl
  obtain ⟨C, hr, hlocks, hA, hK, hN⟩ := id E
  obtain ⟨hx, hb, hml, hown, hts⟩ := id C
  unfold kX2_oddsOverWithin_55 at hB
  refine lv_iload hx hb dX2_oddsOverWithin_55 (lv_at hl 7 rfl) ?_
  refine lv_aload_n hx hb dX2_oddsOverWithin_57 rfl (lv_at hl 0 rfl) ?_
  refine q_get (v := .ref (a 2)) C inX2_oddsOverWithin_X2 hK hP 42 rfl rfl 0 (by decide) rfl LX2_oddsOverWithin_24 rfl dX2_oddsOverWithin_58 ?_
  refine q_getN (v := .int (s.k.v 1)) C hN inX2_oddsOverWithin_X5 hK hP 8 rfl rfl 6 (by decide) rfl nwF_X2_44 rfl dX2_oddsOverWithin_61 ?_
  refine lv_icmp_ge (tgt := 164) hx hb dX2_oddsOverWithin_64 (by decide) (fun c1 => ?_) (fun c1 => ?_)
  · have hB := if_p hB c1
    refine lv_aload_n hx hb dX2_oddsOverWithin_164 rfl (lv_at hl 0 rfl) ?_
    refine lv_aload_n hx hb dX2_oddsOverWithin_165 rfl (lv_at hl 1 rfl) ?_
    refine lv_iload hx hb dX2_oddsOverWithin_166 (lv_at hl 6 rfl) ?_
    obtain ⟨s2, hc, hB⟩ := bindP_inv hB
    refine q_govF (va_runV (As := [.ref (b 0), .int x6]) (rest := []) C (ckX2_unfind hc _) (cwV 2 hts gX2_oddsOverWithin_X2_unfind rfl rfl rfl (by decide +kernel) ⟨by dsimp only; omega, by dsimp only; omega⟩) (q_preV hK hP (ci := 2) (q0 := 42) rfl rfl rfl (q_preF hN hK hP hD)) rfl rfl hl.1 rfl (lv_room (Nat.le_of_ble_eq_true rfl)) dX2_oddsOverWithin_168 ⟨Nat.le_of_ble_eq_true rfl, Nat.le_of_ble_eq_true rfl⟩) hD hS hA (fun w1 H locs hw hP hD hS => ?_)
    subst hw
    refine lv_aload_n hx hb dX2_oddsOverWithin_171 rfl (lv_at hl 1 rfl) ?_
    refine q_getN (v := .ref (b 5)) C hN inX2_oddsOverWithin_X6 hK hP 0 rfl rfl 4 (by decide) rfl nwF_X2_117 rfl dX2_oddsOverWithin_172 ?_
    refine lv_iload_n hx hb dX2_oddsOverWithin_175 rfl (lv_at hl 2 rfl) ?_
    refine lv_dup2_11 hx hb dX2_oddsOverWithin_176 rfl rfl ?_
    obtain ⟨g3, hB⟩ := guard_inv hB
    refine q_iald (x := ((s2.d.f 4) (Int32.toNatClampNeg x2))) C hK hP 5 1 rfl rfl (vpb_in g3) dX2_oddsOverWithin_177 rfl ?_
    refine lv_iconst (v := 1) hx hb dX2_oddsOverWithin_178 (by decide) ?_
    refine lv_isub hx hb dX2_oddsOverWithin_179 ?_
    obtain ⟨g4, hB⟩ := guard_inv hB
    obtain ⟨s5, hs6, hB⟩ := letS_inv hB
    refine q_iast (f2 := (upd (s2.d.f 4) (Int32.toNatClampNeg x2) (((s2.d.f 4) (Int32.toNatClampNeg x2)) - 1))) (w2 := (wJ cB cI cJ cZ cS a b s5)) C hK hP hD hS 5 1 rfl rfl (vpb_in g4) dX2_oddsOverWithin_180 rfl (by subst hs6; rfl) (fun H locs hP hD hS => ?_)
    refine lv_iload hx hb dX2_oddsOverWithin_181 (lv_at hl 5 rfl) ?_
    exact q_iret C hr hlocks hK hP hD hS (Nat.le_of_ble_eq_true rfl) (Nat.le_of_ble_eq_true rfl) dX2_oddsOverWithin_183 (by cases hB; exact ⟨rfl, rfl⟩)
  · have hB := if_n hB c1
    refine lv_iload hx hb dX2_oddsOverWithin_67 (lv_at hl 4 rfl) ?_
    refine lv_iload hx hb dX2_oddsOverWithin_69 (lv_at hl 7 rfl) ?_
    obtain ⟨q_, hc, hB⟩ := bindP_inv hB
    refine q_goi0 (va_runSN (As := [.int x4, .int x7]) (rest := []) C (ckX10_thingIn hc _) ⟨va_cnB 2 hts gX2_oddsOverWithin_X10_thingIn_n65 rfl rfl rfl (hN _ nwM_X2_65 rfl) (hts _ LX2_oddsOverWithin_I_X10) (by decide +kernel) ⟨by dsimp only; omega, by dsimp only; omega⟩, hts _ LX2_oddsOverWithin_S_X10_thingIn, trivial⟩ (q_pre0 hN hK) rfl rfl hl.1 rfl (lv_room (Nat.le_of_ble_eq_true rfl)) dX2_oddsOverWithin_71 ⟨Nat.le_of_ble_eq_true rfl, Nat.le_of_ble_eq_true rfl⟩) hP hD hS hA (fun r7 w1 H locs hw hP hS => ?_)
    subst hw
    refine lv_istore (lv' := [(8, .int r7), (0, .ref (a 36)), (1, .ref (b 0)), (2, .int x2), (3, .int x3), (4, .int x4), (5, .int x5), (6, .int x6), (7, .int x7)]) hx hb dX2_oddsOverWithin_74 hl (by decide) rfl (fun ls hl => ?_)
    refine lv_aload_n hx hb dX2_oddsOverWithin_76 rfl (lv_at hl 1 rfl) ?_
    refine lv_aload_n hx hb dX2_oddsOverWithin_77 rfl (lv_at hl 2 rfl) ?_
    refine lv_iload hx hb dX2_oddsOverWithin_78 (lv_at hl 8 rfl) ?_
    obtain ⟨q_, s8, hc, hB⟩ := bindI_inv hB
    refine q_goiF (va_runV (As := [.ref (b 0), .int x7]) (rest := []) C (ckX2_mayCount hc _) (cwV 2 hts gX2_oddsOverWithin_X2_mayCount rfl rfl rfl (by decide +kernel) ⟨by dsimp only; omega, by dsimp only; omega⟩) (q_preV hK hP (ci := 2) (q0 := 42) rfl rfl rfl (q_preF hN hK hP hD)) rfl rfl hl.1 rfl (lv_room (Nat.le_of_ble_eq_true rfl)) dX2_oddsOverWithin_80 ⟨Nat.le_of_ble_eq_true rfl, Nat.le_of_ble_eq_true rfl⟩) hD hS hA (fun r9 w1 H locs hw hP hD hS => ?_)
    obtain ⟨hq_, hw⟩ := hw; subst hw; subst hq_
    refine lv_iconst (v := 1) hx hb dX2_oddsOverWithin_83 (by decide) ?_
    refine lv_icmp_le (tgt := 129) hx hb dX2_oddsOverWithin_84 (by decide) (fun c10 => ?_) (fun c10 => ?_)
    · have hB := if_p hB c10
      exact bkX2_oddsOverWithin_129 hR hfr hlo (hk55) _ _ _ _ _ _ _ _ hB p e s0 m below meth c A E H locs ls hP hD hS (lv_sub hl [1, 2, 3, 4, 5, 6, 7, 8, 0] rfl)
    · have hB := if_n hB c10
      refine lv_aload_n hx hb dX2_oddsOverWithin_87 rfl (lv_at hl 2 rfl) ?_
      refine q_getN (v := .ref (b 2)) C hN inX2_oddsOverWithin_X6 hK hP 0 rfl rfl 1 (by decide) rfl nwF_X2_122 rfl dX2_oddsOverWithin_88 ?_
      refine lv_iload hx hb dX2_oddsOverWithin_91 (lv_at hl 8 rfl) ?_
      refine lv_dup2_11 hx hb dX2_oddsOverWithin_93 rfl rfl ?_
      obtain ⟨g11, hB⟩ := guard_inv hB
      refine q_iald (x := ((s8.d.f 1) (Int32.toNatClampNeg x7))) C hK hP 2 1 rfl rfl (vpb_in g11) dX2_oddsOverWithin_94 rfl ?_
      refine lv_iconst (v := 1) hx hb dX2_oddsOverWithin_95 (by decide) ?_
      refine lv_iload hx hb dX2_oddsOverWithin_96 (lv_at hl 0 rfl) ?_
      refine lv_ishl hx hb dX2_oddsOverWithin_98 ?_
      refine lv_ixor hx hb dX2_oddsOverWithin_99 ?_
      obtain ⟨g12, hB⟩ := guard_inv hB
      obtain ⟨s13, hs14, hB⟩ := letS_inv hB
      refine q_iast (f2 := (upd (s8.d.f 1) (Int32.toNatClampNeg x7) (((s8.d.f 1) (Int32.toNatClampNeg x7)) ^^^ (1 <<< (r7 &&& 31))))) (w2 := (wJ cB cI cJ cZ cS a b s13)) C hK hP hD hS 2 1 rfl rfl (vpb_in g12) dX2_oddsOverWithin_100 rfl (by subst hs14; rfl) (fun H locs hP hD hS => ?_)
      refine lv_iload hx hb dX2_oddsOverWithin_101 (lv_at hl 6 rfl) ?_
      refine lv_aload_n hx hb dX2_oddsOverWithin_103 rfl (lv_at hl 1 rfl) ?_
      refine lv_aload_n hx hb dX2_oddsOverWithin_104 rfl (lv_at hl 2 rfl) ?_
      refine lv_iload_n hx hb dX2_oddsOverWithin_105 rfl (lv_at hl 3 rfl) ?_
      refine lv_iload_n hx hb dX2_oddsOverWithin_106 rfl (lv_at hl 4 rfl) ?_
      refine lv_iconst (v := 1) hx hb dX2_oddsOverWithin_107 (by decide) ?_
      refine lv_isub hx hb dX2_oddsOverWithin_108 ?_
      obtain ⟨q_, s15, hc, hB⟩ := bindI_inv hB
      refine q_goiF (va_runV (As := [.ref (b 0), .int x2, .int (x3 - 1)]) (rest := [.int x5]) C (hR hc _) (cwV 3 hts gX2_oddsOverWithin_X2_oddsOverWithin rfl rfl rfl (by decide +kernel) ⟨by dsimp only; omega, by dsimp only; omega⟩) (q_preV hK hP (ci := 2) (q0 := 42) rfl rfl rfl (q_preF hN hK hP hD)) rfl rfl hl.1 rfl (lv_room (Nat.le_of_ble_eq_true rfl)) dX2_oddsOverWithin_109 ⟨Nat.le_of_ble_eq_true rfl, Nat.le_of_ble_eq_true rfl⟩) hD hS hA (fun r16 w1 H locs hw hP hD hS => ?_)
      obtain ⟨hq_, hw⟩ := hw; subst hw; subst hq_
      refine lv_iadd hx hb dX2_oddsOverWithin_112 ?_
      refine lv_istore (lv' := [(5, .int (x5 + r16)), (8, .int r7), (0, .ref (a 36)), (1, .ref (b 0)), (2, .int x2), (3, .int x3), (4, .int x4), (6, .int x6), (7, .int x7)]) hx hb dX2_oddsOverWithin_113 hl (by decide) rfl (fun ls hl => ?_)
      refine lv_aload_n hx hb dX2_oddsOverWithin_115 rfl (lv_at hl 3 rfl) ?_
      refine q_getN (v := .ref (b 2)) C hN inX2_oddsOverWithin_X6 hK hP 0 rfl rfl 1 (by decide) rfl nwF_X2_122 rfl dX2_oddsOverWithin_116 ?_
      refine lv_iload hx hb dX2_oddsOverWithin_119 (lv_at hl 8 rfl) ?_
      refine lv_dup2_11 hx hb dX2_oddsOverWithin_121 rfl rfl ?_
      obtain ⟨g17, hB⟩ := guard_inv hB
      refine q_iald (x := ((s15.d.f 1) (Int32.toNatClampNeg x7))) C hK hP 2 1 rfl rfl (vpb_in g17) dX2_oddsOverWithin_122 rfl ?_
      refine lv_iconst (v := 1) hx hb dX2_oddsOverWithin_123 (by decide) ?_
      refine lv_iload hx hb dX2_oddsOverWithin_124 (lv_at hl 1 rfl) ?_
      refine lv_ishl hx hb dX2_oddsOverWithin_126 ?_
      refine lv_ixor hx hb dX2_oddsOverWithin_127 ?_
      obtain ⟨g18, hB⟩ := guard_inv hB
      obtain ⟨s19, hs20, hB⟩ := letS_inv hB
      refine q_iast (f2 := (upd (s15.d.f 1) (Int32.toNatClampNeg x7) (((s15.d.f 1) (Int32.toNatClampNeg x7)) ^^^ (1 <<< (r7 &&& 31))))) (w2 := (wJ cB cI cJ cZ cS a b s19)) C hK hP hD hS 2 1 rfl rfl (vpb_in g18) dX2_oddsOverWithin_128 rfl (by subst hs20; rfl) (fun H locs hP hD hS => ?_)
      exact bkX2_oddsOverWithin_129 hR hfr hlo (hk55) _ _ _ _ _ _ _ _ hB p e s0 m below meth c A E H locs ls hP hD hS (lv_sub hl [2, 3, 4, 5, 6, 0, 7, 8, 1] rfl)
theorem bkX2_oddsOverWithin_55L {l : Launch} {dC : Nat → ClassId} {dI : Nat → Nat → Nat} {cB cI cJ cZ cS : ClassId} {a b : Nat → Nat} {R : JS → Int32 → Int32 → Option (Int32 × JS)} {fr lo : Nat} (hR : ∀ {s : JS} {x2 x3 r : Int32} {s' : JS}, R s x2 x3 = some (r, s') → CI l yX2_oddsOverWithin wsX2_oddsOverWithin ({ frames := fr, cells := 0, slots := 0, locals := lo }) (dC, dI) (tysA cB cI cJ cZ cS) (wJ cB cI cJ cZ cS a b s) [.ref (a 36), .ref (b 0), .int x2, .int x3] (fun x u => x = r ∧ u = wJ cB cI cJ cZ cS a b s')) (hfr : 6 ≤ fr) (hlo : 152 ≤ lo) {as : List Value} {r : Int32} {s' : JS} : ∀ (n : Nat) (s : JS) (x2 : Int32) (x3 : Int32) (x4 : Int32) (x5 : Int32) (x6 : Int32) (x7 : Int32), kX2_oddsOverWithin_55L R n s x2 x3 x4 x5 x6 x7 = some (r, s') → BlkI l yX2_oddsOverWithin wsX2_oddsOverWithin ({ frames := fr + 1, cells := 0, slots := 0, locals := lo + 28 }) cX2_oddsOverWithin 9 (some .int) (dC, dI) (tysA cB cI cJ cZ cS) as 55 (wJ cB cI cJ cZ cS a b s) [(0, .ref (a 36)), (1, .ref (b 0)), (2, .int x2), (3, .int x3), (4, .int x4), (5, .int x5), (6, .int x6), (7, .int x7)] [] (fun x u => x = r ∧ u = (wJ cB cI cJ cZ cS a b s')) := by
  intro n
  induction n with
  | zero => intro s x2 x3 x4 x5 x6 x7 hB; exact none_ne hB
  | succ n ih => intro s x2 x3 x4 x5 x6 x7 hB; exact bkX2_oddsOverWithin_55 hR hfr hlo ih _ _ _ _ _ _ _ hB
set_option maxHeartbeats 4000000 in
set_option maxRecDepth 100000 in
theorem bkX2_oddsOverWithin {l : Launch} {dC : Nat → ClassId} {dI : Nat → Nat → Nat} {cB cI cJ cZ cS : ClassId} {a b : Nat → Nat} {R : JS → Int32 → Int32 → Option (Int32 × JS)} {fr lo : Nat} (hR : ∀ {s : JS} {x2 x3 r : Int32} {s' : JS}, R s x2 x3 = some (r, s') → CI l yX2_oddsOverWithin wsX2_oddsOverWithin ({ frames := fr, cells := 0, slots := 0, locals := lo }) (dC, dI) (tysA cB cI cJ cZ cS) (wJ cB cI cJ cZ cS a b s) [.ref (a 36), .ref (b 0), .int x2, .int x3] (fun x u => x = r ∧ u = wJ cB cI cJ cZ cS a b s')) (hfr : 6 ≤ fr) (hlo : 152 ≤ lo) {as : List Value} {r : Int32} {s' : JS} (s : JS) (x2 : Int32) (x3 : Int32) (hB : kX2_oddsOverWithin R s x2 x3 = some (r, s')) : BlkI l yX2_oddsOverWithin wsX2_oddsOverWithin ({ frames := fr + 1, cells := 0, slots := 0, locals := lo + 28 }) cX2_oddsOverWithin 9 (some .int) (dC, dI) (tysA cB cI cJ cZ cS) as 0 (wJ cB cI cJ cZ cS a b s) [(0, .ref (a 36)), (1, .ref (b 0)), (2, .int x2), (3, .int x3)] [] (fun x u => x = r ∧ u = (wJ cB cI cJ cZ cS a b s')) := by
  intro p e s0 m below meth c A E H locs ls hP hD hS hl
  obtain ⟨C, hr, hlocks, hA, hK, hN⟩ := id E
  obtain ⟨hx, hb, hml, hown, hts⟩ := id C
  unfold kX2_oddsOverWithin at hB
  refine lv_aload_n hx hb dX2_oddsOverWithin_0 rfl (lv_at hl 0 rfl) ?_
  refine lv_aload_n hx hb dX2_oddsOverWithin_1 rfl (lv_at hl 1 rfl) ?_
  refine lv_iload_n hx hb dX2_oddsOverWithin_2 rfl (lv_at hl 2 rfl) ?_
  obtain ⟨q_, s1, hc, hB⟩ := bindI_inv hB
  refine q_goiF (va_runV (As := [.ref (b 0), .int x2]) (rest := []) C (ckX2_bestGuess hc _) (cwV 2 hts gX2_oddsOverWithin_X2_bestGuess rfl rfl rfl (by decide +kernel) ⟨by dsimp only; omega, by dsimp only; omega⟩) (q_preV hK hP (ci := 2) (q0 := 42) rfl rfl rfl (q_preF hN hK hP hD)) rfl rfl hl.1 rfl (lv_room (Nat.le_of_ble_eq_true rfl)) dX2_oddsOverWithin_3 ⟨Nat.le_of_ble_eq_true rfl, Nat.le_of_ble_eq_true rfl⟩) hD hS hA (fun r2 w1 H locs hw hP hD hS => ?_)
  obtain ⟨hq_, hw⟩ := hw; subst hw; subst hq_
  refine lv_istore (lv' := [(4, .int r2), (0, .ref (a 36)), (1, .ref (b 0)), (2, .int x2), (3, .int x3)]) hx hb dX2_oddsOverWithin_6 hl (by decide) rfl (fun ls hl => ?_)
  refine lv_iload hx hb dX2_oddsOverWithin_8 (lv_at hl 0 rfl) ?_
  refine lv_bipush (v := (-2)) hx hb dX2_oddsOverWithin_10 (by decide) ?_
  refine lv_icmp_eq (tgt := 20) hx hb dX2_oddsOverWithin_12 (by decide) (fun c3 => ?_) (fun c3 => ?_)
  · have hB := if_p hB c3
    refine lv_iconst (v := 0) hx hb dX2_oddsOverWithin_20 (by decide) ?_
    exact q_iret C hr hlocks hK hP hD hS (Nat.le_of_ble_eq_true rfl) (Nat.le_of_ble_eq_true rfl) dX2_oddsOverWithin_21 (by cases hB; exact ⟨rfl, rfl⟩)
  · have hB := if_n hB c3
    refine lv_iload_n hx hb dX2_oddsOverWithin_15 rfl (lv_at hl 4 rfl) ?_
    refine lv_iconst (v := 1) hx hb dX2_oddsOverWithin_16 (by decide) ?_
    refine lv_icmp_ge (tgt := 22) hx hb dX2_oddsOverWithin_17 (by decide) (fun c4 => ?_) (fun c4 => ?_)
    · have hB := if_p hB c4
      refine lv_aload_n hx hb dX2_oddsOverWithin_22 rfl (lv_at hl 1 rfl) ?_
      refine lv_aload_n hx hb dX2_oddsOverWithin_23 rfl (lv_at hl 2 rfl) ?_
      refine lv_iload hx hb dX2_oddsOverWithin_24 (lv_at hl 0 rfl) ?_
      obtain ⟨q_, s5, hc, hB⟩ := bindI_inv hB
      refine q_goiF (va_runV (As := [.ref (b 0), .int r2]) (rest := []) C (ckX2_oddsOf hc _) (cwV 2 hts gX2_oddsOverWithin_X2_oddsOf rfl rfl rfl (by decide +kernel) ⟨by dsimp only; omega, by dsimp only; omega⟩) (q_preV hK hP (ci := 2) (q0 := 42) rfl rfl rfl (q_preF hN hK hP hD)) rfl rfl hl.1 rfl (lv_room (Nat.le_of_ble_eq_true rfl)) dX2_oddsOverWithin_26 ⟨Nat.le_of_ble_eq_true rfl, Nat.le_of_ble_eq_true rfl⟩) hD hS hA (fun r6 w1 H locs hw hP hD hS => ?_)
      obtain ⟨hq_, hw⟩ := hw; subst hw; subst hq_
      refine lv_istore (lv' := [(5, .int r6), (4, .int r2), (0, .ref (a 36)), (1, .ref (b 0)), (2, .int x2), (3, .int x3)]) hx hb dX2_oddsOverWithin_29 hl (by decide) rfl (fun ls hl => ?_)
      refine lv_iload_n hx hb dX2_oddsOverWithin_31 rfl (lv_at hl 5 rfl) ?_
      refine lv_iconst (v := 1) hx hb dX2_oddsOverWithin_32 (by decide) ?_
      refine lv_icmp_ne (tgt := 39) hx hb dX2_oddsOverWithin_33 (by decide) (fun c7 => ?_) (fun c7 => ?_)
      · have hB := if_n hB c7
        refine lv_aload_n hx hb dX2_oddsOverWithin_39 rfl (lv_at hl 3 rfl) ?_
        refine q_getN (v := .ref (b 5)) C hN inX2_oddsOverWithin_X6 hK hP 0 rfl rfl 4 (by decide) rfl nwF_X2_117 rfl dX2_oddsOverWithin_40 ?_
        refine lv_iload_n hx hb dX2_oddsOverWithin_43 rfl (lv_at hl 4 rfl) ?_
        refine lv_dup2_11 hx hb dX2_oddsOverWithin_44 rfl rfl ?_
        obtain ⟨g8, hB⟩ := guard_inv hB
        refine q_iald (x := ((s5.d.f 4) (Int32.toNatClampNeg x2))) C hK hP 5 1 rfl rfl (vpb_in g8) dX2_oddsOverWithin_45 rfl ?_
        refine lv_iconst (v := 1) hx hb dX2_oddsOverWithin_46 (by decide) ?_
        refine lv_iadd hx hb dX2_oddsOverWithin_47 ?_
        obtain ⟨g9, hB⟩ := guard_inv hB
        obtain ⟨s10, hs11, hB⟩ := letS_inv hB
        refine q_iast (f2 := (upd (s5.d.f 4) (Int32.toNatClampNeg x2) (((s5.d.f 4) (Int32.toNatClampNeg x2)) + 1))) (w2 := (wJ cB cI cJ cZ cS a b s10)) C hK hP hD hS 5 1 rfl rfl (vpb_in g9) dX2_oddsOverWithin_48 rfl (by subst hs11; rfl) (fun H locs hP hD hS => ?_)
        refine lv_iconst (v := 0) hx hb dX2_oddsOverWithin_49 (by decide) ?_
        refine lv_istore (lv' := [(6, .int 0), (5, .int r6), (4, .int r2), (0, .ref (a 36)), (1, .ref (b 0)), (2, .int x2), (3, .int x3)]) hx hb dX2_oddsOverWithin_50 hl (by decide) rfl (fun ls hl => ?_)
        refine lv_iconst (v := 0) hx hb dX2_oddsOverWithin_52 (by decide) ?_
        refine lv_istore (lv' := [(7, .int 0), (6, .int 0), (5, .int r6), (4, .int r2), (0, .ref (a 36)), (1, .ref (b 0)), (2, .int x2), (3, .int x3)]) hx hb dX2_oddsOverWithin_53 hl (by decide) rfl (fun ls hl => ?_)
        exact bkX2_oddsOverWithin_55L hR hfr hlo fu _ _ _ _ _ _ _ hB p e s0 m below meth c A E H locs ls hP hD hS (lv_sub hl [4, 5, 6, 7, 3, 2, 1, 0] rfl)
      · have hB := if_p hB c7
        refine lv_iload hx hb dX2_oddsOverWithin_36 (lv_at hl 0 rfl) ?_
        exact q_iret C hr hlocks hK hP hD hS (Nat.le_of_ble_eq_true rfl) (Nat.le_of_ble_eq_true rfl) dX2_oddsOverWithin_38 (by cases hB; exact ⟨rfl, rfl⟩)
    · have hB := if_n hB c4
      refine lv_iconst (v := 0) hx hb dX2_oddsOverWithin_20 (by decide) ?_
      exact q_iret C hr hlocks hK hP hD hS (Nat.le_of_ble_eq_true rfl) (Nat.le_of_ble_eq_true rfl) dX2_oddsOverWithin_21 (by cases hB; exact ⟨rfl, rfl⟩)
theorem ckX2_oddsOverWithin {l : Launch} {dC : Nat → ClassId} {dI : Nat → Nat → Nat} {cB cI cJ cZ cS : ClassId} {a b : Nat → Nat} {R : JS → Int32 → Int32 → Option (Int32 × JS)} {fr lo : Nat} (hR : ∀ {s : JS} {x2 x3 r : Int32} {s' : JS}, R s x2 x3 = some (r, s') → CI l yX2_oddsOverWithin wsX2_oddsOverWithin ({ frames := fr, cells := 0, slots := 0, locals := lo }) (dC, dI) (tysA cB cI cJ cZ cS) (wJ cB cI cJ cZ cS a b s) [.ref (a 36), .ref (b 0), .int x2, .int x3] (fun x u => x = r ∧ u = wJ cB cI cJ cZ cS a b s')) (hfr : 6 ≤ fr) (hlo : 152 ≤ lo) {r : Int32} {s' : JS} {s : JS} {x2 : Int32} {x3 : Int32} (hB : kX2_oddsOverWithin R s x2 x3 = some (r, s')) : CI l yX2_oddsOverWithin wsX2_oddsOverWithin ({ frames := fr + 1, cells := 0, slots := 0, locals := lo + 28 }) (dC, dI) (tysA cB cI cJ cZ cS) (wJ cB cI cJ cZ cS a b s) [.ref (a 36), .ref (b 0), .int x2, .int x3] (fun x u => x = r ∧ u = (wJ cB cI cJ cZ cS a b s')) :=
  CI_of (cc := cX2_oddsOverWithin) (maxL := 9) (ret := (some .int)) (by decide) rfl (Nat.le_of_ble_eq_true rfl) (bkX2_oddsOverWithin hR hfr hlo _ _ _ hB)
theorem ckX2_oddsOverWithinR {l : Launch} {dC : Nat → ClassId} {dI : Nat → Nat → Nat} {cB cI cJ cZ cS : ClassId} {a b : Nat → Nat} : ∀ (n : Nat) {s : JS} {x2 : Int32} {x3 : Int32} {r : Int32} {s' : JS}, kX2_oddsOverWithinR n s x2 x3 = some (r, s') → CI l yX2_oddsOverWithin wsX2_oddsOverWithin ({ frames := 6 + 1 * n, cells := 0, slots := 0, locals := 152 + 28 * n }) (dC, dI) (tysA cB cI cJ cZ cS) (wJ cB cI cJ cZ cS a b s) [.ref (a 36), .ref (b 0), .int x2, .int x3] (fun x u => x = r ∧ u = wJ cB cI cJ cZ cS a b s') := by
  intro n
  induction n with
  | zero => intro _ _ _ _ _ hB; exact none_ne hB
  | succ n ih =>
    intro _ _ _ _ _ hB
    have h := ckX2_oddsOverWithin (R := kX2_oddsOverWithinR n) ih (by omega) (by omega) hB
    exact h
theorem ckX2_oddsOverWithin_9 {l : Launch} {dC : Nat → ClassId} {dI : Nat → Nat → Nat} {cB cI cJ cZ cS : ClassId} {a b : Nat → Nat} {s : JS} {x2 : Int32} {x3 : Int32} {r : Int32} {s' : JS} (hB : kX2_oddsOverWithinR 9 s x2 x3 = some (r, s')) : CI l yX2_oddsOverWithin wsX2_oddsOverWithin ({ frames := 15, cells := 0, slots := 0, locals := 404 }) (dC, dI) (tysA cB cI cJ cZ cS) (wJ cB cI cJ cZ cS a b s) [.ref (a 36), .ref (b 0), .int x2, .int x3] (fun x u => x = r ∧ u = wJ cB cI cJ cZ cS a b s') := ckX2_oddsOverWithinR 9 hB
theorem LX4_readPart_12 : Cond.fieldLink RX4 12 "GuessFerry$Reader" "draft" "LGuessFerry$Sound;" ∈ wsX4_readPart := by decide +kernel
theorem LX4_readPart_E_X1_endPart : Cond.selects RX1 yX1_endPart yX1_endPart ∈ wsX4_readPart := by decide +kernel
theorem LX4_readPart_I_X1 : Cond.initialized RX1 ∈ wsX4_readPart := by decide +kernel
theorem LX4_readPart_N_X1_endPart : Cond.instanceMethod yX1_endPart ∈ wsX4_readPart := by decide +kernel
theorem inX4_readPart_X4 : ∀ w ∈ u_ws RX4 TX4 8, w ∈ wsX4_readPart := by decide +kernel
theorem inX4_readPart_X5 : ∀ w ∈ u_ws RX5 TX5 10, w ∈ wsX4_readPart := by decide +kernel
set_option maxHeartbeats 4000000 in
set_option maxRecDepth 100000 in
theorem bkX4_readPart {l : Launch} {dC : Nat → ClassId} {dI : Nat → Nat → Nat} {cB cI cJ cZ cS : ClassId} {a : Nat → Nat} {as : List Value} {s' : KS} (s : KS) (x1 : Int32) (hB : kX4_readPart s x1 = some s') : BlkV l yX4_readPart wsX4_readPart ({ frames := 27, cells := 0, slots := 0, locals := 617 }) cX4_readPart 2 none (dC, dI) (tysA cB cI cJ cZ cS) as 0 (wK cB cI cJ cZ cS a s) [(0, .ref (a 28)), (1, .int x1)] [] (fun u => u = (wK cB cI cJ cZ cS a s')) := by
  intro p e s0 m below meth c A E H locs ls hP hD hS hl
  obtain ⟨C, hr, hlocks, hA, hK, hN⟩ := id E
  obtain ⟨hx, hb, hml, hown, hts⟩ := id C
  unfold kX4_readPart at hB
  refine lv_aload_n hx hb dX4_readPart_0 rfl (lv_at hl 0 rfl) ?_
  refine lv_iconst (v := 0) hx hb dX4_readPart_1 (by decide) ?_
  obtain ⟨s1, hc, hB⟩ := bindP_inv hB
  refine q_govF (va_runV (As := [.int 0]) (rest := []) C (ckX4_readSum_8 hc _) (cwV 1 hts gX4_readPart_X4_readSum rfl rfl rfl (by decide +kernel) ⟨Nat.le_of_ble_eq_true rfl, Nat.le_of_ble_eq_true rfl⟩) (q_preV hK hP (ci := 4) (q0 := 28) rfl rfl rfl (q_preF hN hK hP hD)) rfl rfl hl.1 rfl (lv_room (Nat.le_of_ble_eq_true rfl)) dX4_readPart_2 ⟨Nat.le_of_ble_eq_true rfl, Nat.le_of_ble_eq_true rfl⟩) hD hS hA (fun w1 H locs hw hP hD hS => ?_)
  subst hw
  refine lv_aload_n hx hb dX4_readPart_5 rfl (lv_at hl 0 rfl) ?_
  refine q_get (v := .ref (a 15)) C inX4_readPart_X4 hK hP 28 rfl rfl 1 (by decide) rfl LX4_readPart_12 rfl dX4_readPart_6 ?_
  refine q_getN (v := .ref (a 21)) C hN inX4_readPart_X5 hK hP 15 rfl rfl 5 (by decide) rfl nwF_X4_119 rfl dX4_readPart_9 ?_
  obtain ⟨s2, hc, hB⟩ := bindP_inv hB
  refine q_govF (va_runVN (As := []) (rest := []) C (ckX1_endPart hc _) ⟨va_cnB 0 hts gX4_readPart_X1_endPart_n134 rfl rfl rfl (hN _ nwM_X4_134 rfl) (hts _ LX4_readPart_I_X1) (by decide +kernel) ⟨Nat.le_of_ble_eq_true rfl, Nat.le_of_ble_eq_true rfl⟩, hts _ LX4_readPart_N_X1_endPart, hts _ LX4_readPart_E_X1_endPart⟩ (q_preV hK hP (ci := 1) (q0 := 21) rfl rfl rfl (q_preF hN hK hP hD)) rfl rfl hl.1 rfl (lv_room (Nat.le_of_ble_eq_true rfl)) dX4_readPart_12 ⟨Nat.le_of_ble_eq_true rfl, Nat.le_of_ble_eq_true rfl⟩) hD hS hA (fun w1 H locs hw hP hD hS => ?_)
  subst hw
  refine lv_aload_n hx hb dX4_readPart_15 rfl (lv_at hl 0 rfl) ?_
  refine lv_iload_n hx hb dX4_readPart_16 rfl (lv_at hl 1 rfl) ?_
  obtain ⟨s3, hc, hB⟩ := bindP_inv hB
  refine q_govF (va_runV (As := [.int x1]) (rest := []) C (ckX4_take hc _) (cwV 1 hts gX4_readPart_X4_take rfl rfl rfl (by decide +kernel) ⟨Nat.le_of_ble_eq_true rfl, Nat.le_of_ble_eq_true rfl⟩) (q_preV hK hP (ci := 4) (q0 := 28) rfl rfl rfl (q_preF hN hK hP hD)) rfl rfl hl.1 rfl (lv_room (Nat.le_of_ble_eq_true rfl)) dX4_readPart_17 ⟨Nat.le_of_ble_eq_true rfl, Nat.le_of_ble_eq_true rfl⟩) hD hS hA (fun w1 H locs hw hP hD hS => ?_)
  subst hw
  exact q_vret C hr hlocks hK hP hD hS (Nat.le_of_ble_eq_true rfl) (Nat.le_of_ble_eq_true rfl) dX4_readPart_20 (by cases hB; rfl)
theorem ckX4_readPart {l : Launch} {dC : Nat → ClassId} {dI : Nat → Nat → Nat} {cB cI cJ cZ cS : ClassId} {a : Nat → Nat} {s' : KS} {s : KS} {x1 : Int32} (hB : kX4_readPart s x1 = some s') : CV l yX4_readPart wsX4_readPart ({ frames := 27, cells := 0, slots := 0, locals := 617 }) (dC, dI) (tysA cB cI cJ cZ cS) (wK cB cI cJ cZ cS a s) [.ref (a 28), .int x1] (fun u => u = (wK cB cI cJ cZ cS a s')) :=
  CV_of (cc := cX4_readPart) (maxL := 2) (ret := none) (by decide) rfl (Nat.le_of_ble_eq_true rfl) (bkX4_readPart _ _ hB)
theorem LX10_years_35 : Cond.fieldLink RX10 35 "GuessFerry" "now" "LGuessFerry$Standing;" ∈ wsX10_years := by decide +kernel
theorem LX10_years_45 : Cond.fieldLink RX10 45 "GuessFerry" "past" "LGuessFerry$Past;" ∈ wsX10_years := by decide +kernel
theorem LX10_years_54 : Cond.fieldLink RX10 54 "GuessFerry" "crossing" "LGuessFerry$Crossing;" ∈ wsX10_years := by decide +kernel
theorem LX10_years_E_X0_passYears : Cond.selects RX0 yX0_passYears yX0_passYears ∈ wsX10_years := by decide +kernel
theorem LX10_years_E_X3_remember : Cond.selects RX3 yX3_remember yX3_remember ∈ wsX10_years := by decide +kernel
theorem LX10_years_I_X0 : Cond.initialized RX0 ∈ wsX10_years := by decide +kernel
theorem LX10_years_I_X3 : Cond.initialized RX3 ∈ wsX10_years := by decide +kernel
theorem LX10_years_N_X0_passYears : Cond.instanceMethod yX0_passYears ∈ wsX10_years := by decide +kernel
theorem LX10_years_N_X3_remember : Cond.instanceMethod yX3_remember ∈ wsX10_years := by decide +kernel
theorem inX10_years_X10 : ∀ w ∈ u_ws RX10 TX10 9, w ∈ wsX10_years := by decide +kernel
theorem inX10_years_X6 : ∀ w ∈ u_ws RX6 TX6 7, w ∈ wsX10_years := by decide +kernel
set_option maxHeartbeats 4000000 in
set_option maxRecDepth 100000 in
theorem bkX10_years {l : Launch} {dC : Nat → ClassId} {dI : Nat → Nat → Nat} {cB cI cJ cZ cS : ClassId} {a b b2 c0 : Nat → Nat} {bb : Nat → Nat → Nat} {as : List Value} {r : Int32} {s' : YS} (s : YS) (x1 : Int32) (hB : kX10_years s x1 = some (r, s')) : BlkI l yX10_years wsX10_years ({ frames := 6, cells := 0, slots := 0, locals := 145 }) cX10_years 2 (some .int) (dC, dI) (tysA cB cI cJ cZ cS) as 0 (wY cB cI cJ cZ cS a b b2 c0 bb s) [(0, .ref (c0 0)), (1, .int x1)] [] (fun x u => x = r ∧ u = (wY cB cI cJ cZ cS a b b2 c0 bb s')) := by
  intro p e s0 m below meth c A E H locs ls hP hD hS hl
  obtain ⟨C, hr, hlocks, hA, hK, hN⟩ := id E
  obtain ⟨hx, hb, hml, hown, hts⟩ := id C
  unfold kX10_years at hB
  refine lv_iload_n hx hb dX10_years_0 rfl (lv_at hl 1 rfl) ?_
  refine lv_if_lt (tgt := 10) hx hb dX10_years_1 (by decide) (fun c1 => ?_) (fun c1 => ?_)
  · have hB := if_p hB c1
    refine lv_iconst (v := (-1)) hx hb dX10_years_10 (by decide) ?_
    exact q_iret C hr hlocks hK hP hD hS (Nat.le_of_ble_eq_true rfl) (Nat.le_of_ble_eq_true rfl) dX10_years_11 (by cases hB; exact ⟨rfl, rfl⟩)
  · have hB := if_n hB c1
    refine lv_iload_n hx hb dX10_years_4 rfl (lv_at hl 1 rfl) ?_
    refine lv_bipush (v := 40) hx hb dX10_years_5 (by decide) ?_
    refine lv_icmp_le (tgt := 12) hx hb dX10_years_7 (by decide) (fun c2 => ?_) (fun c2 => ?_)
    · have hB := if_p hB c2
      refine lv_iload_n hx hb dX10_years_12 rfl (lv_at hl 1 rfl) ?_
      refine lv_if_le (tgt := 39) hx hb dX10_years_13 (by decide) (fun c3 => ?_) (fun c3 => ?_)
      · have hB := if_p hB c3
        refine lv_aload_n hx hb dX10_years_39 rfl (lv_at hl 0 rfl) ?_
        refine q_get (v := .ref (b 0)) C inX10_years_X10 hK hP 0 rfl rfl 3 (by decide) rfl LX10_years_35 rfl dX10_years_40 ?_
        refine q_getN (v := .int (s.x.n.v 5)) C hN inX10_years_X6 hK hP 11 rfl rfl 5 (by decide) rfl nwF_X10_189 rfl dX10_years_43 ?_
        exact q_iret C hr hlocks hK hP hD hS (Nat.le_of_ble_eq_true rfl) (Nat.le_of_ble_eq_true rfl) dX10_years_46 (by cases hB; exact ⟨rfl, rfl⟩)
      · have hB := if_n hB c3
        refine lv_aload_n hx hb dX10_years_16 rfl (lv_at hl 0 rfl) ?_
        refine q_get (v := .ref (c0 1)) C inX10_years_X10 hK hP 0 rfl rfl 5 (by decide) rfl LX10_years_45 rfl dX10_years_17 ?_
        refine lv_aload_n hx hb dX10_years_20 rfl (lv_at hl 0 rfl) ?_
        refine q_get (v := .ref (b 0)) C inX10_years_X10 hK hP 0 rfl rfl 3 (by decide) rfl LX10_years_35 rfl dX10_years_21 ?_
        obtain ⟨s4, hc, hB⟩ := bindP_inv hB
        refine q_govP (wr := ((wD cI b2 s.x.t) ++ (wK cB cI cJ cZ cS a s.x.k))) (va_runVN (As := [.ref (b 0)]) (rest := []) C (ckX3_remember hc _) ⟨va_cnB 1 hts gX10_years_X3_remember_n173 rfl rfl rfl (hN _ nwM_X10_173 rfl) (hts _ LX10_years_I_X3) (by decide +kernel) ⟨Nat.le_of_ble_eq_true rfl, Nat.le_of_ble_eq_true rfl⟩, hts _ LX10_years_N_X3_remember, hts _ LX10_years_E_X3_remember⟩ (q_preV hK hP (ci := 3) (q0 := 1) rfl rfl rfl (q_preP hN hK hP hD [0, 1, 2, 3, 4, 11, 12, 13, 14, 15, 16] rfl (by decide))) rfl rfl hl.1 rfl (lv_room (Nat.le_of_ble_eq_true rfl)) dX10_years_24 ⟨Nat.le_of_ble_eq_true rfl, Nat.le_of_ble_eq_true rfl⟩) hP hD hS hA [0, 1, 2, 3, 4, 11, 12, 13, 14, 15, 16] [5, 6, 7, 8, 9, 10, 17, 18, 19, 20, 21, 22, 23, 24, 25, 26, 27, 28, 29, 30, 31, 32, 33, 34, 35, 36, 37, 38, 39, 40, 41, 42, 43, 44, 45, 46, 47, 48, 49, 50, 51, 52, 53, 54, 55, 56, 57, 58, 59, 60, 61, 62, 63] rfl rfl (by decide) (by decide) (fun H locs hP hD hS => ?_)
        obtain ⟨s5, hs6, hB⟩ := letS_inv hB
        have hP : va_P (dC, dI) vwCl (wY cB cI cJ cZ cS a b b2 c0 bb s5) H := by subst hs6; exact hP.part [53, 54, 55, 56, 57, 0, 1, 2, 3, 4, 5, 58, 59, 60, 61, 62, 63, 6, 7, 8, 9, 10, 11, 12, 13, 14, 15, 16, 17, 18, 19, 20, 21, 22, 23, 24, 25, 26, 27, 28, 29, 30, 31, 32, 33, 34, 35, 36, 37, 38, 39, 40, 41, 42, 43, 44, 45, 46, 47, 48, 49, 50, 51, 52] rfl
        have hD : va_D A (wY cB cI cJ cZ cS a b b2 c0 bb s5) := by subst hs6; exact hD.part [53, 54, 55, 56, 57, 0, 1, 2, 3, 4, 5, 58, 59, 60, 61, 62, 63, 6, 7, 8, 9, 10, 11, 12, 13, 14, 15, 16, 17, 18, 19, 20, 21, 22, 23, 24, 25, 26, 27, 28, 29, 30, 31, 32, 33, 34, 35, 36, 37, 38, 39, 40, 41, 42, 43, 44, 45, 46, 47, 48, 49, 50, 51, 52] (by decide) rfl
        refine lv_aload_n hx hb dX10_years_27 rfl (lv_at hl 0 rfl) ?_
        refine q_get (v := .ref (a 35)) C inX10_years_X10 hK hP 0 rfl rfl 6 (by decide) rfl LX10_years_54 rfl dX10_years_28 ?_
        refine lv_aload_n hx hb dX10_years_31 rfl (lv_at hl 0 rfl) ?_
        refine q_get (v := .ref (b 0)) C inX10_years_X10 hK hP 0 rfl rfl 3 (by decide) rfl LX10_years_35 rfl dX10_years_32 ?_
        refine lv_iload_n hx hb dX10_years_35 rfl (lv_at hl 1 rfl) ?_
        obtain ⟨s7, hc, hB⟩ := bindP_inv hB
        refine q_govT (wr := ((wG cZ cS a b b2 c0 (rgP bb) (slP bb) s5.x.g) ++ (wD cI b2 s5.x.t))) (va_runVN (As := [.ref (b 0), .int x1]) (rest := []) C (ckX0_passYears hc _) ⟨va_cnB 2 hts gX10_years_X0_passYears_n185 rfl rfl rfl (hN _ nwM_X10_185 rfl) (hts _ LX10_years_I_X0) (by decide +kernel) ⟨Nat.le_of_ble_eq_true rfl, Nat.le_of_ble_eq_true rfl⟩, hts _ LX10_years_N_X0_passYears, hts _ LX10_years_E_X0_passYears⟩ (q_preV hK hP (ci := 0) (q0 := 52) rfl rfl rfl (q_pre hN hK hP hD [11, 12, 13, 14, 15, 16, 17, 18, 19, 20, 21, 22, 23, 24, 25, 26, 27, 28, 29, 30, 31, 32, 33, 34, 35, 36, 37, 38, 39, 40, 41, 42, 43, 44, 45, 46, 47, 48, 49, 50, 51, 52, 53, 54, 55, 56, 57, 58, 59, 60, 61, 62, 63] rfl (by decide))) rfl rfl hl.1 rfl (lv_room (Nat.le_of_ble_eq_true rfl)) dX10_years_36 ⟨Nat.le_of_ble_eq_true rfl, Nat.le_of_ble_eq_true rfl⟩) hP hD hS hA [11, 12, 13, 14, 15, 16, 17, 18, 19, 20, 21, 22, 23, 24, 25, 26, 27, 28, 29, 30, 31, 32, 33, 34, 35, 36, 37, 38, 39, 40, 41, 42, 43, 44, 45, 46, 47, 48, 49, 50, 51, 52, 53, 54, 55, 56, 57, 58, 59, 60, 61, 62, 63] [0, 1, 2, 3, 4, 5, 6, 7, 8, 9, 10] rfl rfl (by decide) (by decide) (fun w1 H locs hw hP hD hS => ?_)
        subst hw
        obtain ⟨s8, hs9, hB⟩ := letS_inv hB
        have hP : va_P (dC, dI) vwCl (wY cB cI cJ cZ cS a b b2 c0 bb s8) H := by subst hs9; exact hP
        have hD : va_D A (wY cB cI cJ cZ cS a b b2 c0 bb s8) := by subst hs9; exact hD
        refine lv_aload_n hx hb dX10_years_39 rfl (lv_at hl 0 rfl) ?_
        refine q_get (v := .ref (b 0)) C inX10_years_X10 hK hP 0 rfl rfl 3 (by decide) rfl LX10_years_35 rfl dX10_years_40 ?_
        refine q_getN (v := .int (s8.x.n.v 5)) C hN inX10_years_X6 hK hP 11 rfl rfl 5 (by decide) rfl nwF_X10_189 rfl dX10_years_43 ?_
        exact q_iret C hr hlocks hK hP hD hS (Nat.le_of_ble_eq_true rfl) (Nat.le_of_ble_eq_true rfl) dX10_years_46 (by cases hB; exact ⟨rfl, rfl⟩)
    · have hB := if_n hB c2
      refine lv_iconst (v := (-1)) hx hb dX10_years_10 (by decide) ?_
      exact q_iret C hr hlocks hK hP hD hS (Nat.le_of_ble_eq_true rfl) (Nat.le_of_ble_eq_true rfl) dX10_years_11 (by cases hB; exact ⟨rfl, rfl⟩)
theorem ckX10_years {l : Launch} {dC : Nat → ClassId} {dI : Nat → Nat → Nat} {cB cI cJ cZ cS : ClassId} {a b b2 c0 : Nat → Nat} {bb : Nat → Nat → Nat} {r : Int32} {s' : YS} {s : YS} {x1 : Int32} (hB : kX10_years s x1 = some (r, s')) : CI l yX10_years wsX10_years ({ frames := 6, cells := 0, slots := 0, locals := 145 }) (dC, dI) (tysA cB cI cJ cZ cS) (wY cB cI cJ cZ cS a b b2 c0 bb s) [.ref (c0 0), .int x1] (fun x u => x = r ∧ u = (wY cB cI cJ cZ cS a b b2 c0 bb s')) :=
  CI_of (cc := cX10_years) (maxL := 2) (ret := (some .int)) (by decide) rfl (Nat.le_of_ble_eq_true rfl) (bkX10_years _ _ hB)
