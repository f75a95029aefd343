theorem dX11_back_0 : decode cX11_back 0 = .ok (.iload_n 1, 1) := by decide +kernel
theorem dX11_back_1 : decode cX11_back 1 = .ok (.ifCond .lt 11, 3) := by decide +kernel
theorem dX11_back_4 : decode cX11_back 4 = .ok (.iload_n 1, 1) := by decide +kernel
theorem dX11_back_5 : decode cX11_back 5 = .ok (.aload_n 0, 1) := by decide +kernel
theorem dX11_back_6 : decode cX11_back 6 = .ok (.getfield 148, 3) := by decide +kernel
theorem dX11_back_9 : decode cX11_back 9 = .ok (.if_icmp .le 5, 3) := by decide +kernel
theorem dX11_back_12 : decode cX11_back 12 = .ok (.iconst (-1), 1) := by decide +kernel
theorem dX11_back_13 : decode cX11_back 13 = .ok (.ireturn, 1) := by decide +kernel
theorem dX11_back_14 : decode cX11_back 14 = .ok (.aload_n 0, 1) := by decide +kernel
theorem dX11_back_15 : decode cX11_back 15 = .ok (.dup, 1) := by decide +kernel
theorem dX11_back_16 : decode cX11_back 16 = .ok (.getfield 148, 3) := by decide +kernel
theorem dX11_back_19 : decode cX11_back 19 = .ok (.iload_n 1, 1) := by decide +kernel
theorem dX11_back_20 : decode cX11_back 20 = .ok (.isub, 1) := by decide +kernel
theorem dX11_back_21 : decode cX11_back 21 = .ok (.putfield 148, 3) := by decide +kernel
theorem dX11_back_24 : decode cX11_back 24 = .ok (.aload_n 0, 1) := by decide +kernel
theorem dX11_back_25 : decode cX11_back 25 = .ok (.getfield 148, 3) := by decide +kernel
theorem dX11_back_28 : decode cX11_back 28 = .ok (.ireturn, 1) := by decide +kernel
set_option maxRecDepth 20000 in
theorem ggX11_hold_X11_in : GoodIn wsX11_hold wsX11_in := goodIn_r _ [7] (by decide +kernel) (by decide +kernel)
set_option maxRecDepth 20000 in
theorem gX11_hold_X11_in : GoodIn wsX11_hold (va_wsS RX11 281 yX11_in wsX11_in) := goodIn_app (goodIn_of _ (by decide +kernel)) ggX11_hold_X11_in
theorem dX11_hold_0 : decode cX11_hold 0 = .ok (.iload_n 1, 1) := by decide +kernel
theorem dX11_hold_1 : decode cX11_hold 1 = .ok (.iconst 0, 1) := by decide +kernel
theorem dX11_hold_2 : decode cX11_hold 2 = .ok (.iconst 2, 1) := by decide +kernel
theorem dX11_hold_3 : decode cX11_hold 3 = .ok (.invokestatic 281, 3) := by decide +kernel
theorem dX11_hold_6 : decode cX11_hold 6 = .ok (.ifCond .ne 5, 3) := by decide +kernel
theorem dX11_hold_9 : decode cX11_hold 9 = .ok (.iconst 0, 1) := by decide +kernel
theorem dX11_hold_10 : decode cX11_hold 10 = .ok (.ireturn, 1) := by decide +kernel
theorem dX11_hold_11 : decode cX11_hold 11 = .ok (.aload_n 0, 1) := by decide +kernel
theorem dX11_hold_12 : decode cX11_hold 12 = .ok (.getfield 128, 3) := by decide +kernel
theorem dX11_hold_15 : decode cX11_hold 15 = .ok (.iload_n 1, 1) := by decide +kernel
theorem dX11_hold_16 : decode cX11_hold 16 = .ok (.iconst 1, 1) := by decide +kernel
theorem dX11_hold_17 : decode cX11_hold 17 = .ok (.bastore, 1) := by decide +kernel
theorem dX11_hold_18 : decode cX11_hold 18 = .ok (.iconst 0, 1) := by decide +kernel
theorem dX11_hold_19 : decode cX11_hold 19 = .ok (.istore_n 2, 1) := by decide +kernel
theorem dX11_hold_20 : decode cX11_hold 20 = .ok (.iload_n 2, 1) := by decide +kernel
theorem dX11_hold_21 : decode cX11_hold 21 = .ok (.bipush 29, 2) := by decide +kernel
theorem dX11_hold_23 : decode cX11_hold 23 = .ok (.if_icmp .ge 26, 3) := by decide +kernel
theorem dX11_hold_26 : decode cX11_hold 26 = .ok (.aload_n 0, 1) := by decide +kernel
theorem dX11_hold_27 : decode cX11_hold 27 = .ok (.getfield 131, 3) := by decide +kernel
theorem dX11_hold_30 : decode cX11_hold 30 = .ok (.bipush 29, 2) := by decide +kernel
theorem dX11_hold_32 : decode cX11_hold 32 = .ok (.iload_n 1, 1) := by decide +kernel
theorem dX11_hold_33 : decode cX11_hold 33 = .ok (.imul, 1) := by decide +kernel
theorem dX11_hold_34 : decode cX11_hold 34 = .ok (.iload_n 2, 1) := by decide +kernel
theorem dX11_hold_35 : decode cX11_hold 35 = .ok (.iadd, 1) := by decide +kernel
theorem dX11_hold_36 : decode cX11_hold 36 = .ok (.aload_n 0, 1) := by decide +kernel
theorem dX11_hold_37 : decode cX11_hold 37 = .ok (.getfield 98, 3) := by decide +kernel
theorem dX11_hold_40 : decode cX11_hold 40 = .ok (.iload_n 2, 1) := by decide +kernel
theorem dX11_hold_41 : decode cX11_hold 41 = .ok (.iaload, 1) := by decide +kernel
theorem dX11_hold_42 : decode cX11_hold 42 = .ok (.iastore, 1) := by decide +kernel
theorem dX11_hold_43 : decode cX11_hold 43 = .ok (.iinc 2 1, 3) := by decide +kernel
theorem dX11_hold_46 : decode cX11_hold 46 = .ok (.goto (-26), 3) := by decide +kernel
theorem dX11_hold_49 : decode cX11_hold 49 = .ok (.iconst 1, 1) := by decide +kernel
theorem dX11_hold_50 : decode cX11_hold 50 = .ok (.ireturn, 1) := by decide +kernel
set_option maxRecDepth 20000 in
theorem ggX11_restore_X11_in : GoodIn wsX11_restore wsX11_in := goodIn_r _ [8] (by decide +kernel) (by decide +kernel)
set_option maxRecDepth 20000 in
theorem gX11_restore_X11_in : GoodIn wsX11_restore (va_wsS RX11 281 yX11_in wsX11_in) := goodIn_app (goodIn_of _ (by decide +kernel)) ggX11_restore_X11_in
theorem dX11_restore_0 : decode cX11_restore 0 = .ok (.iload_n 1, 1) := by decide +kernel
theorem dX11_restore_1 : decode cX11_restore 1 = .ok (.iconst 0, 1) := by decide +kernel
theorem dX11_restore_2 : decode cX11_restore 2 = .ok (.iconst 2, 1) := by decide +kernel
theorem dX11_restore_3 : decode cX11_restore 3 = .ok (.invokestatic 281, 3) := by decide +kernel
theorem dX11_restore_6 : decode cX11_restore 6 = .ok (.ifCond .eq 12, 3) := by decide +kernel
theorem dX11_restore_9 : decode cX11_restore 9 = .ok (.aload_n 0, 1) := by decide +kernel
theorem dX11_restore_10 : decode cX11_restore 10 = .ok (.getfield 128, 3) := by decide +kernel
theorem dX11_restore_13 : decode cX11_restore 13 = .ok (.iload_n 1, 1) := by decide +kernel
theorem dX11_restore_14 : decode cX11_restore 14 = .ok (.baload, 1) := by decide +kernel
theorem dX11_restore_15 : decode cX11_restore 15 = .ok (.ifCond .ne 5, 3) := by decide +kernel
theorem dX11_restore_18 : decode cX11_restore 18 = .ok (.iconst 0, 1) := by decide +kernel
theorem dX11_restore_19 : decode cX11_restore 19 = .ok (.ireturn, 1) := by decide +kernel
theorem dX11_sumNow_0 : decode cX11_sumNow 0 = .ok (.iconst 0, 1) := by decide +kernel
theorem dX11_sumNow_1 : decode cX11_sumNow 1 = .ok (.istore_n 3, 1) := by decide +kernel
theorem dX11_sumNow_2 : decode cX11_sumNow 2 = .ok (.iload_n 1, 1) := by decide +kernel
theorem dX11_sumNow_3 : decode cX11_sumNow 3 = .ok (.istore 4, 2) := by decide +kernel
theorem dX11_sumNow_5 : decode cX11_sumNow 5 = .ok (.iload 4, 2) := by decide +kernel
theorem dX11_sumNow_7 : decode cX11_sumNow 7 = .ok (.iload_n 1, 1) := by decide +kernel
theorem dX11_sumNow_8 : decode cX11_sumNow 8 = .ok (.iload_n 2, 1) := by decide +kernel
theorem dX11_sumNow_9 : decode cX11_sumNow 9 = .ok (.iadd, 1) := by decide +kernel
theorem dX11_sumNow_10 : decode cX11_sumNow 10 = .ok (.if_icmp .ge 19, 3) := by decide +kernel
theorem dX11_sumNow_13 : decode cX11_sumNow 13 = .ok (.iload_n 3, 1) := by decide +kernel
theorem dX11_sumNow_14 : decode cX11_sumNow 14 = .ok (.aload_n 0, 1) := by decide +kernel
theorem dX11_sumNow_15 : decode cX11_sumNow 15 = .ok (.getfield 98, 3) := by decide +kernel
theorem dX11_sumNow_18 : decode cX11_sumNow 18 = .ok (.iload 4, 2) := by decide +kernel
theorem dX11_sumNow_20 : decode cX11_sumNow 20 = .ok (.iaload, 1) := by decide +kernel
theorem dX11_sumNow_21 : decode cX11_sumNow 21 = .ok (.iadd, 1) := by decide +kernel
theorem dX11_sumNow_22 : decode cX11_sumNow 22 = .ok (.istore_n 3, 1) := by decide +kernel
theorem dX11_sumNow_23 : decode cX11_sumNow 23 = .ok (.iinc 4 1, 3) := by decide +kernel
theorem dX11_sumNow_26 : decode cX11_sumNow 26 = .ok (.goto (-21), 3) := by decide +kernel
theorem dX11_sumNow_29 : decode cX11_sumNow 29 = .ok (.iload_n 3, 1) := by decide +kernel
theorem dX11_sumNow_30 : decode cX11_sumNow 30 = .ok (.ireturn, 1) := by decide +kernel
set_option maxRecDepth 20000 in
theorem ggX11_count_X11_copies : GoodIn wsX11_count wsX11_copies := goodIn_r _ [13, 4, 14, 15, 2, 16, 102, 103, 104, 105, 106, 107, 108, 109, 110, 111, 112, 113, 114, 115, 116, 117, 118, 119, 120, 121, 122, 123, 124, 125, 126, 127, 128, 129, 130, 131, 132, 133, 134, 135, 136, 137, 138, 139, 140, 141, 142, 143, 144, 145, 146, 147, 148, 149, 150, 151, 152, 153, 154, 155, 156, 157, 158, 159] (by decide +kernel) (by decide +kernel)
set_option maxRecDepth 20000 in
theorem gX11_count_X11_copies : GoodIn wsX11_count (wsV RX11 352 RX11 yX11_copies wsX11_copies) := goodIn_app (goodIn_of _ (by decide +kernel)) ggX11_count_X11_copies
set_option maxRecDepth 20000 in
theorem ggX11_count_X11_partiesIn : GoodIn wsX11_count wsX11_partiesIn := goodIn_r _ [20, 3, 2, 4, 102, 103, 104, 105, 106, 107, 108, 109, 110, 111, 112, 113, 114, 115, 116, 117, 118, 119, 120, 121, 122, 123, 124, 125, 126, 127, 128, 129, 130, 131, 132, 133, 134, 135, 136, 137, 138, 139, 140, 141, 142, 143, 144, 145, 146, 147, 148, 149, 150, 151, 152, 153, 154, 155, 156, 157, 158, 159] (by decide +kernel) (by decide +kernel)
set_option maxRecDepth 20000 in
theorem gX11_count_X11_partiesIn : GoodIn wsX11_count (wsV RX11 431 RX11 yX11_partiesIn wsX11_partiesIn) := goodIn_app (goodIn_of _ (by decide +kernel)) ggX11_count_X11_partiesIn
set_option maxRecDepth 20000 in
theorem ggX11_count_X11_sumNow : GoodIn wsX11_count wsX11_sumNow := goodIn_r _ [24, 14, 102, 103, 104, 105, 106, 107, 108, 109, 110, 111, 112, 113, 114, 115, 116, 117, 118, 119, 120, 121, 122, 123, 124, 125, 126, 127, 128, 129, 130, 131, 132, 133, 134, 135, 136, 137, 138, 139, 140, 141, 142, 143, 144, 145, 146, 147, 148, 149, 150, 151, 152, 153, 154, 155, 156, 157, 158, 159] (by decide +kernel) (by decide +kernel)
set_option maxRecDepth 20000 in
theorem gX11_count_X11_sumNow : GoodIn wsX11_count (wsV RX11 434 RX11 yX11_sumNow wsX11_sumNow) := goodIn_app (goodIn_of _ (by decide +kernel)) ggX11_count_X11_sumNow
set_option maxRecDepth 20000 in
theorem ggX11_count_X11_bits : GoodIn wsX11_count wsX11_bits := goodIn_r _ [27] (by decide +kernel) (by decide +kernel)
set_option maxRecDepth 20000 in
theorem gX11_count_X11_bits : GoodIn wsX11_count (va_wsS RX11 312 yX11_bits wsX11_bits) := goodIn_app (goodIn_of _ (by decide +kernel)) ggX11_count_X11_bits
set_option maxRecDepth 20000 in
theorem ggX11_count_X11_guesses : GoodIn wsX11_count wsX11_guesses := goodIn_r _ [31, 32, 1, 2, 102, 103, 104, 105, 106, 107, 108, 109, 110, 111, 112, 113, 114, 115, 116, 117, 118, 119, 120, 121, 122, 123, 124, 125, 126, 127, 128, 129, 130, 131, 132, 133, 134, 135, 136, 137, 138, 139, 140, 141, 142, 143, 144, 145, 146, 147, 148, 149, 150, 151, 152, 153, 154, 155, 156, 157, 158, 159] (by decide +kernel) (by decide +kernel)
set_option maxRecDepth 20000 in
theorem gX11_count_X11_guesses : GoodIn wsX11_count (wsV RX11 285 RX11 yX11_guesses wsX11_guesses) := goodIn_app (goodIn_of _ (by decide +kernel)) ggX11_count_X11_guesses
set_option maxRecDepth 20000 in
theorem ggX11_count_X11_thereNumber : GoodIn wsX11_count wsX11_thereNumber := goodIn_r _ [36, 1, 2, 32, 37, 38, 39, 12, 40, 4, 41, 42, 43, 44, 45, 46, 47, 48, 49, 16, 50, 51, 52, 53, 102, 103, 104, 105, 106, 107, 108, 109, 110, 111, 112, 113, 114, 115, 116, 117, 118, 119, 120, 121, 122, 123, 124, 125, 126, 127, 128, 129, 130, 131, 132, 133, 134, 135, 136, 137, 138, 139, 140, 141, 142, 143, 144, 145, 146, 147, 148, 149, 150, 151, 152, 153, 154, 155, 156, 157, 158, 159] (by decide +kernel) (by decide +kernel)
set_option maxRecDepth 20000 in
theorem gX11_count_X11_thereNumber : GoodIn wsX11_count (wsV RX11 370 RX11 yX11_thereNumber wsX11_thereNumber) := goodIn_app (goodIn_of _ (by decide +kernel)) ggX11_count_X11_thereNumber
theorem dX11_count_0 : decode cX11_count 0 = .ok (.aload_n 0, 1) := by decide +kernel
theorem dX11_count_1 : decode cX11_count 1 = .ok (.invokevirtual 352, 3) := by decide +kernel
theorem dX11_count_4 : decode cX11_count 4 = .ok (.iconst 0, 1) := by decide +kernel
theorem dX11_count_5 : decode cX11_count 5 = .ok (.istore_n 2, 1) := by decide +kernel
theorem dX11_count_6 : decode cX11_count 6 = .ok (.iload_n 1, 1) := by decide +kernel
theorem dX11_count_7 : decode cX11_count 7 = .ok (.tableswitch 396 0 18 #[89, 99, 109, 117, 125, 131, 137, 143, 152, 157, 162, 167, 212, 262, 302, 307, 312, 320, 357], 89) := by decide +kernel
theorem dX11_count_96 : decode cX11_count 96 = .ok (.aload_n 0, 1) := by decide +kernel
theorem dX11_count_97 : decode cX11_count 97 = .ok (.getfield 40, 3) := by decide +kernel
theorem dX11_count_100 : decode cX11_count 100 = .ok (.aload_n 0, 1) := by decide +kernel
theorem dX11_count_101 : decode cX11_count 101 = .ok (.getfield 215, 3) := by decide +kernel
theorem dX11_count_104 : decode cX11_count 104 = .ok (.iaload, 1) := by decide +kernel
theorem dX11_count_105 : decode cX11_count 105 = .ok (.ireturn, 1) := by decide +kernel
theorem dX11_count_106 : decode cX11_count 106 = .ok (.aload_n 0, 1) := by decide +kernel
theorem dX11_count_107 : decode cX11_count 107 = .ok (.getfield 49, 3) := by decide +kernel
theorem dX11_count_110 : decode cX11_count 110 = .ok (.aload_n 0, 1) := by decide +kernel
theorem dX11_count_111 : decode cX11_count 111 = .ok (.getfield 215, 3) := by decide +kernel
theorem dX11_count_114 : decode cX11_count 114 = .ok (.iaload, 1) := by decide +kernel
theorem dX11_count_115 : decode cX11_count 115 = .ok (.ireturn, 1) := by decide +kernel
theorem dX11_count_116 : decode cX11_count 116 = .ok (.aload_n 0, 1) := by decide +kernel
theorem dX11_count_117 : decode cX11_count 117 = .ok (.getfield 101, 3) := by decide +kernel
theorem dX11_count_120 : decode cX11_count 120 = .ok (.bipush 27, 2) := by decide +kernel
theorem dX11_count_122 : decode cX11_count 122 = .ok (.iaload, 1) := by decide +kernel
theorem dX11_count_123 : decode cX11_count 123 = .ok (.ireturn, 1) := by decide +kernel
theorem dX11_count_124 : decode cX11_count 124 = .ok (.aload_n 0, 1) := by decide +kernel
theorem dX11_count_125 : decode cX11_count 125 = .ok (.getfield 101, 3) := by decide +kernel
theorem dX11_count_128 : decode cX11_count 128 = .ok (.bipush 28, 2) := by decide +kernel
theorem dX11_count_130 : decode cX11_count 130 = .ok (.iaload, 1) := by decide +kernel
theorem dX11_count_131 : decode cX11_count 131 = .ok (.ireturn, 1) := by decide +kernel
theorem dX11_count_132 : decode cX11_count 132 = .ok (.aload_n 0, 1) := by decide +kernel
theorem dX11_count_133 : decode cX11_count 133 = .ok (.iconst 0, 1) := by decide +kernel
theorem dX11_count_134 : decode cX11_count 134 = .ok (.invokevirtual 431, 3) := by decide +kernel
theorem dX11_count_137 : decode cX11_count 137 = .ok (.ireturn, 1) := by decide +kernel
theorem dX11_count_138 : decode cX11_count 138 = .ok (.aload_n 0, 1) := by decide +kernel
theorem dX11_count_139 : decode cX11_count 139 = .ok (.iconst 1, 1) := by decide +kernel
theorem dX11_count_140 : decode cX11_count 140 = .ok (.invokevirtual 431, 3) := by decide +kernel
theorem dX11_count_143 : decode cX11_count 143 = .ok (.ireturn, 1) := by decide +kernel
theorem dX11_count_144 : decode cX11_count 144 = .ok (.aload_n 0, 1) := by decide +kernel
theorem dX11_count_145 : decode cX11_count 145 = .ok (.iconst 2, 1) := by decide +kernel
theorem dX11_count_146 : decode cX11_count 146 = .ok (.invokevirtual 431, 3) := by decide +kernel
theorem dX11_count_149 : decode cX11_count 149 = .ok (.ireturn, 1) := by decide +kernel
theorem dX11_count_150 : decode cX11_count 150 = .ok (.aload_n 0, 1) := by decide +kernel
theorem dX11_count_151 : decode cX11_count 151 = .ok (.bipush 21, 2) := by decide +kernel
theorem dX11_count_153 : decode cX11_count 153 = .ok (.bipush 6, 2) := by decide +kernel
theorem dX11_count_155 : decode cX11_count 155 = .ok (.invokevirtual 434, 3) := by decide +kernel
theorem dX11_count_158 : decode cX11_count 158 = .ok (.ireturn, 1) := by decide +kernel
theorem dX11_count_159 : decode cX11_count 159 = .ok (.aload_n 0, 1) := by decide +kernel
theorem dX11_count_160 : decode cX11_count 160 = .ok (.getfield 148, 3) := by decide +kernel
theorem dX11_count_163 : decode cX11_count 163 = .ok (.ireturn, 1) := by decide +kernel
theorem dX11_count_164 : decode cX11_count 164 = .ok (.aload_n 0, 1) := by decide +kernel
theorem dX11_count_165 : decode cX11_count 165 = .ok (.getfield 230, 3) := by decide +kernel
theorem dX11_count_168 : decode cX11_count 168 = .ok (.ireturn, 1) := by decide +kernel
theorem dX11_count_169 : decode cX11_count 169 = .ok (.aload_n 0, 1) := by decide +kernel
theorem dX11_count_170 : decode cX11_count 170 = .ok (.getfield 233, 3) := by decide +kernel
theorem dX11_count_173 : decode cX11_count 173 = .ok (.ireturn, 1) := by decide +kernel
theorem dX11_count_174 : decode cX11_count 174 = .ok (.aload_n 0, 1) := by decide +kernel
theorem dX11_count_175 : decode cX11_count 175 = .ok (.getfield 128, 3) := by decide +kernel
theorem dX11_count_178 : decode cX11_count 178 = .ok (.iconst 0, 1) := by decide +kernel
theorem dX11_count_179 : decode cX11_count 179 = .ok (.baload, 1) := by decide +kernel
theorem dX11_count_180 : decode cX11_count 180 = .ok (.ifCond .eq 7, 3) := by decide +kernel
theorem dX11_count_187 : decode cX11_count 187 = .ok (.iconst 0, 1) := by decide +kernel
theorem dX11_count_188 : decode cX11_count 188 = .ok (.aload_n 0, 1) := by decide +kernel
theorem dX11_count_189 : decode cX11_count 189 = .ok (.getfield 128, 3) := by decide +kernel
theorem dX11_count_192 : decode cX11_count 192 = .ok (.iconst 1, 1) := by decide +kernel
theorem dX11_count_193 : decode cX11_count 193 = .ok (.baload, 1) := by decide +kernel
theorem dX11_count_194 : decode cX11_count 194 = .ok (.ifCond .eq 7, 3) := by decide +kernel
theorem dX11_count_201 : decode cX11_count 201 = .ok (.iconst 0, 1) := by decide +kernel
theorem dX11_count_202 : decode cX11_count 202 = .ok (.iadd, 1) := by decide +kernel
theorem dX11_count_203 : decode cX11_count 203 = .ok (.aload_n 0, 1) := by decide +kernel
theorem dX11_count_204 : decode cX11_count 204 = .ok (.getfield 128, 3) := by decide +kernel
theorem dX11_count_207 : decode cX11_count 207 = .ok (.iconst 2, 1) := by decide +kernel
theorem dX11_count_208 : decode cX11_count 208 = .ok (.baload, 1) := by decide +kernel
theorem dX11_count_209 : decode cX11_count 209 = .ok (.ifCond .eq 7, 3) := by decide +kernel
theorem dX11_count_216 : decode cX11_count 216 = .ok (.iconst 0, 1) := by decide +kernel
theorem dX11_count_217 : decode cX11_count 217 = .ok (.iadd, 1) := by decide +kernel
theorem dX11_count_218 : decode cX11_count 218 = .ok (.ireturn, 1) := by decide +kernel
theorem dX11_count_219 : decode cX11_count 219 = .ok (.aload_n 0, 1) := by decide +kernel
theorem dX11_count_220 : decode cX11_count 220 = .ok (.getfield 101, 3) := by decide +kernel
theorem dX11_count_223 : decode cX11_count 223 = .ok (.iconst 0, 1) := by decide +kernel
theorem dX11_count_224 : decode cX11_count 224 = .ok (.iaload, 1) := by decide +kernel
theorem dX11_count_225 : decode cX11_count 225 = .ok (.invokestatic 312, 3) := by decide +kernel
theorem dX11_count_228 : decode cX11_count 228 = .ok (.aload_n 0, 1) := by decide +kernel
theorem dX11_count_229 : decode cX11_count 229 = .ok (.getfield 101, 3) := by decide +kernel
theorem dX11_count_232 : decode cX11_count 232 = .ok (.iconst 1, 1) := by decide +kernel
theorem dX11_count_233 : decode cX11_count 233 = .ok (.iaload, 1) := by decide +kernel
theorem dX11_count_234 : decode cX11_count 234 = .ok (.invokestatic 312, 3) := by decide +kernel
theorem dX11_count_237 : decode cX11_count 237 = .ok (.iadd, 1) := by decide +kernel
theorem dX11_count_238 : decode cX11_count 238 = .ok (.aload_n 0, 1) := by decide +kernel
theorem dX11_count_239 : decode cX11_count 239 = .ok (.getfield 101, 3) := by decide +kernel
theorem dX11_count_242 : decode cX11_count 242 = .ok (.iconst 2, 1) := by decide +kernel
theorem dX11_count_243 : decode cX11_count 243 = .ok (.iaload, 1) := by decide +kernel
theorem dX11_count_244 : decode cX11_count 244 = .ok (.invokestatic 312, 3) := by decide +kernel
theorem dX11_count_247 : decode cX11_count 247 = .ok (.iadd, 1) := by decide +kernel
theorem dX11_count_248 : decode cX11_count 248 = .ok (.aload_n 0, 1) := by decide +kernel
theorem dX11_count_249 : decode cX11_count 249 = .ok (.getfield 101, 3) := by decide +kernel
theorem dX11_count_252 : decode cX11_count 252 = .ok (.iconst 3, 1) := by decide +kernel
theorem dX11_count_253 : decode cX11_count 253 = .ok (.iaload, 1) := by decide +kernel
theorem dX11_count_254 : decode cX11_count 254 = .ok (.invokestatic 312, 3) := by decide +kernel
theorem dX11_count_257 : decode cX11_count 257 = .ok (.iadd, 1) := by decide +kernel
theorem dX11_count_258 : decode cX11_count 258 = .ok (.aload_n 0, 1) := by decide +kernel
theorem dX11_count_259 : decode cX11_count 259 = .ok (.getfield 101, 3) := by decide +kernel
theorem dX11_count_262 : decode cX11_count 262 = .ok (.iconst 4, 1) := by decide +kernel
theorem dX11_count_263 : decode cX11_count 263 = .ok (.iaload, 1) := by decide +kernel
theorem dX11_count_264 : decode cX11_count 264 = .ok (.invokestatic 312, 3) := by decide +kernel
theorem dX11_count_267 : decode cX11_count 267 = .ok (.iadd, 1) := by decide +kernel
theorem dX11_count_268 : decode cX11_count 268 = .ok (.ireturn, 1) := by decide +kernel
theorem dX11_count_269 : decode cX11_count 269 = .ok (.iconst 0, 1) := by decide +kernel
theorem dX11_count_270 : decode cX11_count 270 = .ok (.istore_n 3, 1) := by decide +kernel
theorem dX11_count_271 : decode cX11_count 271 = .ok (.iload_n 3, 1) := by decide +kernel
theorem dX11_count_272 : decode cX11_count 272 = .ok (.aload_n 0, 1) := by decide +kernel
theorem dX11_count_273 : decode cX11_count 273 = .ok (.getfield 40, 3) := by decide +kernel
theorem dX11_count_276 : decode cX11_count 276 = .ok (.aload_n 0, 1) := by decide +kernel
theorem dX11_count_277 : decode cX11_count 277 = .ok (.getfield 215, 3) := by decide +kernel
theorem dX11_count_280 : decode cX11_count 280 = .ok (.iaload, 1) := by decide +kernel
theorem dX11_count_281 : decode cX11_count 281 = .ok (.if_icmp .ge 26, 3) := by decide +kernel
theorem dX11_count_307 : decode cX11_count 307 = .ok (.iload_n 2, 1) := by decide +kernel
theorem dX11_count_308 : decode cX11_count 308 = .ok (.ireturn, 1) := by decide +kernel
theorem dX11_count_309 : decode cX11_count 309 = .ok (.aload_n 0, 1) := by decide +kernel
theorem dX11_count_310 : decode cX11_count 310 = .ok (.invokevirtual 285, 3) := by decide +kernel
theorem dX11_count_313 : decode cX11_count 313 = .ok (.ireturn, 1) := by decide +kernel
theorem dX11_count_314 : decode cX11_count 314 = .ok (.aload_n 0, 1) := by decide +kernel
theorem dX11_count_315 : decode cX11_count 315 = .ok (.invokevirtual 370, 3) := by decide +kernel
theorem dX11_count_318 : decode cX11_count 318 = .ok (.ireturn, 1) := by decide +kernel
theorem dX11_count_319 : decode cX11_count 319 = .ok (.aload_n 0, 1) := by decide +kernel
theorem dX11_count_320 : decode cX11_count 320 = .ok (.bipush 10, 2) := by decide +kernel
theorem dX11_count_322 : decode cX11_count 322 = .ok (.iconst 5, 1) := by decide +kernel
theorem dX11_count_323 : decode cX11_count 323 = .ok (.invokevirtual 434, 3) := by decide +kernel
theorem dX11_count_326 : decode cX11_count 326 = .ok (.ireturn, 1) := by decide +kernel
theorem dX11_count_327 : decode cX11_count 327 = .ok (.iconst 0, 1) := by decide +kernel
theorem dX11_count_328 : decode cX11_count 328 = .ok (.istore_n 3, 1) := by decide +kernel
theorem dX11_count_329 : decode cX11_count 329 = .ok (.iload_n 3, 1) := by decide +kernel
theorem dX11_count_330 : decode cX11_count 330 = .ok (.aload_n 0, 1) := by decide +kernel
theorem dX11_count_331 : decode cX11_count 331 = .ok (.getfield 40, 3) := by decide +kernel
theorem dX11_count_334 : decode cX11_count 334 = .ok (.aload_n 0, 1) := by decide +kernel
theorem dX11_count_335 : decode cX11_count 335 = .ok (.getfield 215, 3) := by decide +kernel
theorem dX11_count_338 : decode cX11_count 338 = .ok (.iaload, 1) := by decide +kernel
theorem dX11_count_339 : decode cX11_count 339 = .ok (.if_icmp .ge 23, 3) := by decide +kernel
theorem dX11_count_362 : decode cX11_count 362 = .ok (.iload_n 2, 1) := by decide +kernel
theorem dX11_count_363 : decode cX11_count 363 = .ok (.ireturn, 1) := by decide +kernel
theorem dX11_count_364 : decode cX11_count 364 = .ok (.iconst 0, 1) := by decide +kernel
theorem dX11_count_365 : decode cX11_count 365 = .ok (.istore_n 3, 1) := by decide +kernel
theorem dX11_count_366 : decode cX11_count 366 = .ok (.iload_n 3, 1) := by decide +kernel
theorem dX11_count_367 : decode cX11_count 367 = .ok (.aload_n 0, 1) := by decide +kernel
theorem dX11_count_368 : decode cX11_count 368 = .ok (.getfield 49, 3) := by decide +kernel
theorem dX11_count_371 : decode cX11_count 371 = .ok (.aload_n 0, 1) := by decide +kernel
theorem dX11_count_372 : decode cX11_count 372 = .ok (.getfield 215, 3) := by decide +kernel
theorem dX11_count_375 : decode cX11_count 375 = .ok (.iaload, 1) := by decide +kernel
theorem dX11_count_376 : decode cX11_count 376 = .ok (.if_icmp .ge 25, 3) := by decide +kernel
theorem dX11_count_401 : decode cX11_count 401 = .ok (.iload_n 2, 1) := by decide +kernel
theorem dX11_count_402 : decode cX11_count 402 = .ok (.ireturn, 1) := by decide +kernel
theorem dX11_count_403 : decode cX11_count 403 = .ok (.iconst (-1), 1) := by decide +kernel
theorem dX11_count_404 : decode cX11_count 404 = .ok (.ireturn, 1) := by decide +kernel
set_option maxHeartbeats 4000000 in
set_option maxRecDepth 100000 in
theorem c_back (l : Launch) (dC : Nat → ClassId) (dI : Nat → Nat → Nat) (cB cI cJ cZ cS : ClassId) (h : Nat) (a : Nat → Nat) (v : Nat → Int32) (f : Nat → Nat → Int32) (g : Nat → Nat → Int64) (hv2 : v 2 = 0) (x1 : Int32) : CI l yX11_back wsX11_back ({ frames := 0, cells := 0, slots := 0, locals := 0 }) (dC, dI) (tysA cB cI cJ cZ cS) (mw cB cI cJ cZ h a v f g) [.ref h, .int x1] (fun r _ => r = (fr_one 0 x1)) := by
  refine open_I (cc := cX11_back) (maxL := 2) (ret := (some .int)) (by decide) rfl (Nat.le_of_ble_eq_true rfl) ?_
  intro p e s m below meth c A ls E
  obtain ⟨C, hr, hlocks, hnm, hA, hP, hK, hD, hN, hl⟩ := E
  obtain ⟨hx, hb, hml, hown, hts⟩ := id C
  have hS : va_S A s.heap s.heap [] := va_S.rf
  have hl : lv_has ls 2 [(0, .ref h), (1, .int x1)] := hl
  have inX11 : ∀ w ∈ u_ws RX11 TX11 58, w ∈ wsX11_back := fun _ h => List.mem_cons_of_mem _ (List.mem_append_right _ h)
  have L148 : Cond.fieldLink RX11 148 "GuessFerryModel" "taped" "I" ∈ wsX11_back := by decide +kernel
  refine lv_iload_n hx hb dX11_back_0 rfl (lv_at hl 1 rfl) ?_
  refine lv_if_lt (tgt := 12) hx hb dX11_back_1 (by decide) (fun c1 => ?_) (fun c1 => ?_)
  · skip
    refine lv_iconst (v := (-1)) hx hb dX11_back_12 (by decide) ?_
    exact q_iret C hr hlocks hK hP hD hS (Nat.le_of_ble_eq_true rfl) (Nat.le_of_ble_eq_true rfl) dX11_back_13 (fr_one_lt c1)
  · skip
    refine lv_iload_n hx hb dX11_back_4 rfl (lv_at hl 1 rfl) ?_
    refine lv_aload_n hx hb dX11_back_5 rfl (lv_at hl 0 rfl) ?_
    refine q_get (v := .int (v 2)) C inX11 hK hP 0 rfl rfl 2 (by decide) rfl L148 rfl dX11_back_6 ?_
    refine q_top (y := 0) (hv2) ?_
    refine lv_icmp_le (tgt := 14) hx hb dX11_back_9 (by decide) (fun c2 => ?_) (fun c2 => ?_)
    · skip
      obtain rfl : x1 = 0 := Int32.le_antisymm c2 (Int32.not_lt.mp c1)
      refine lv_aload_n hx hb dX11_back_14 rfl (lv_at hl 0 rfl) ?_
      refine lv_dup hx hb dX11_back_15 rfl ?_
      refine q_get (v := .int (v 2)) C inX11 hK hP 0 rfl rfl 2 (by decide) rfl L148 rfl dX11_back_16 ?_
      refine q_top (y := 0) (hv2) ?_
      refine lv_iload_n hx hb dX11_back_19 rfl (lv_at hl 1 rfl) ?_
      refine lv_isub hx hb dX11_back_20 ?_
      refine q_top (y := 0) (by decide +kernel) ?_
      refine q_putS (ty := .int) tyX11 tyX11_ok nmX11 C inX11 hK hP hD hS 0 rfl rfl 2 (by decide) rfl L148 rfl (by decide +kernel) (rfl) rfl (Nat.le_of_ble_eq_true rfl) dX11_back_21 (congrArg (fun z => some (Value.int z)) hv2) (fun H locs hP hD hS => ?_)
      refine lv_aload_n hx hb dX11_back_24 rfl (lv_at hl 0 rfl) ?_
      refine q_get (v := .int (v 2)) C inX11 hK hP 0 rfl rfl 2 (by decide) rfl L148 rfl dX11_back_25 ?_
      refine q_top (y := 0) (hv2) ?_
      exact q_iret C hr hlocks hK hP hD hS (Nat.le_of_ble_eq_true rfl) (Nat.le_of_ble_eq_true rfl) dX11_back_28 (by decide +kernel)
    · skip
      refine lv_iconst (v := (-1)) hx hb dX11_back_12 (by decide) ?_
      exact q_iret C hr hlocks hK hP hD hS (Nat.le_of_ble_eq_true rfl) (Nat.le_of_ble_eq_true rfl) dX11_back_13 (fr_one_gt c2)

set_option maxHeartbeats 4000000 in
set_option maxRecDepth 100000 in
theorem c_hold (l : Launch) (dC : Nat → ClassId) (dI : Nat → Nat → Nat) (cB cI cJ cZ cS : ClassId) (h : Nat) (a : Nat → Nat) (v : Nat → Int32) (f : Nat → Nat → Int32) (g : Nat → Nat → Int64)  (x1 : Int32) : CI l yX11_hold wsX11_hold ({ frames := 1, cells := 0, slots := 0, locals := 22 }) (dC, dI) (tysA cB cI cJ cZ cS) (mw cB cI cJ cZ h a v f g) [.ref h, .int x1] (fun r _ => r = (sp_in x1 0 2)) := by
  refine open_I (cc := cX11_hold) (maxL := 3) (ret := (some .boolean)) (by decide) rfl (Nat.le_of_ble_eq_true rfl) ?_
  intro p e s m below meth c A ls E
  obtain ⟨C, hr, hlocks, hnm, hA, hP, hK, hD, hN, hl⟩ := E
  obtain ⟨hx, hb, hml, hown, hts⟩ := id C
  have hS : va_S A s.heap s.heap [] := va_S.rf
  have hl : lv_has ls 3 [(0, .ref h), (1, .int x1)] := hl
  have inX11 : ∀ w ∈ u_ws RX11 TX11 58, w ∈ wsX11_hold := fun _ h => List.mem_cons_of_mem _ (List.mem_append_right _ h)
  have L128 : Cond.fieldLink RX11 128 "GuessFerryModel" "isHeld" "[Z" ∈ wsX11_hold := by decide +kernel
  have L131 : Cond.fieldLink RX11 131 "GuessFerryModel" "heldRows" "[I" ∈ wsX11_hold := by decide +kernel
  have L98 : Cond.fieldLink RX11 98 "GuessFerryModel" "now" "[I" ∈ wsX11_hold := by decide +kernel
  refine lv_iload_n hx hb dX11_hold_0 rfl (lv_at hl 1 rfl) ?_
  refine lv_iconst (v := 0) hx hb dX11_hold_1 (by decide) ?_
  refine lv_iconst (v := 2) hx hb dX11_hold_2 (by decide) ?_
  refine q_goi0 (va_runS (As := [.int x1, .int 0, .int 2]) (rest := []) C (c_in l dC dI cB cI cJ cZ cS x1 0 2 _) (va_cwS 3 hts gX11_hold_X11_in rfl rfl rfl (by decide +kernel) ⟨Nat.le_of_ble_eq_true rfl, Nat.le_of_ble_eq_true rfl⟩) (q_pre0 hN hK) rfl rfl hl.1 rfl (lv_room (Nat.le_of_ble_eq_true rfl)) dX11_hold_3 ⟨Nat.le_of_ble_eq_true rfl, Nat.le_of_ble_eq_true rfl⟩) hP hD hS hA (fun r w1 H locs hw hP hS => ?_)
  obtain rfl := hw
  refine lv_if_ne (tgt := 11) hx hb dX11_hold_6 (by decide) (fun c1 => ?_) (fun c1 => ?_)
  · skip
    obtain rfl | rfl | rfl := sp_in_3c c1
    · skip
      refine lv_aload_n hx hb dX11_hold_11 rfl (lv_at hl 0 rfl) ?_
      refine q_get (v := .ref (a 56)) C inX11 hK hP 0 rfl rfl 56 (by decide) rfl L128 rfl dX11_hold_12 ?_
      refine lv_iload_n hx hb dX11_hold_15 rfl (lv_at hl 1 rfl) ?_
      refine lv_iconst (v := 1) hx hb dX11_hold_16 (by decide) ?_
      refine q_zast (f2 := (upd (f 56) 0 (vp_nar .boolean 1))) (w2 := (mw cB cI cJ cZ h a v (va_up f 56 (upd (f 56) 0 (vp_nar .boolean 1))) g)) C hK hP hD hS 37 3 rfl rfl (vp_lit (by decide +kernel)) dX11_hold_17 rfl (mw_f56 _) (fun H locs hP hD hS => ?_)
      refine lv_iconst (v := 0) hx hb dX11_hold_18 (by decide) ?_
      refine lv_istore_n (lv' := [(2, .int 0), (0, .ref h), (1, .int 0)]) hx hb dX11_hold_19 rfl hl (by decide) rfl (fun ls hl => ?_)
      have loop2 : ∀ (n i : Nat), i + n = 29 → ∀ (φ : Nat → Int32) (H : Heap) (locs : List Loc) (ls : Array Slot), va_P (dC, dI) vwCl (mw cB cI cJ cZ h a v (va_up (va_up f 56 (upd (f 56) 0 (vp_nar .boolean 1))) 57 φ) g) H → va_D A (mw cB cI cJ cZ h a v (va_up (va_up f 56 (upd (f 56) 0 (vp_nar .boolean 1))) 57 φ) g) → va_S A s.heap H locs → lv_has ls 3 [(2, .int (nI i)), (0, .ref h), (1, .int 0)] → W p l e ({ frames := 1, cells := 0, slots := 0, locals := 22 }) s m [Value.ref h, Value.int 0].toArray below meth c H locs 0 0 (MQ below (va_Qi (fun r _ => r = (sp_in 0 0 2)) (at_W (dC, dI) (tysA cB cI cJ cZ cS) A) A) [Value.ref h, Value.int 0].toArray s 0 0 A) (F0 m 20 ls []) := by
        intro n
        induction n with
        | zero =>
          intro i hi φ H locs ls hP hD hS hl
          obtain rfl : i = 29 := by omega
          refine lv_iload_n hx hb dX11_hold_20 rfl (lv_at hl 0 rfl) ?_
          refine lv_bipush (v := 29) hx hb dX11_hold_21 (by decide) ?_
          refine lv_icmp_ge (tgt := 49) hx hb dX11_hold_23 (by decide) (fun _ => ?_) (fun h => absurd (by decide +kernel) h)
          refine lv_iconst (v := 1) hx hb dX11_hold_49 (by decide) ?_
          exact q_zret C hr hlocks (Or.inr rfl) hK hP hD hS (Nat.le_of_ble_eq_true rfl) (Nat.le_of_ble_eq_true rfl) dX11_hold_50 (by decide +kernel)
        | succ n ih =>
          intro i hi φ H locs ls hP hD hS hl
          refine lv_iload_n hx hb dX11_hold_20 rfl (lv_at hl 0 rfl) ?_
          refine lv_bipush (v := 29) hx hb dX11_hold_21 (by decide) ?_
          refine lv_icmp_ge (tgt := 49) hx hb dX11_hold_23 (by decide) (fun h => absurd h (nI_nge (n := 29) (by omega) (by omega))) (fun _ => ?_)
          refine lv_aload_n hx hb dX11_hold_26 rfl (lv_at hl 1 rfl) ?_
          refine q_get (v := .ref (a 57)) C inX11 hK hP 0 rfl rfl 57 (by decide) rfl L131 rfl dX11_hold_27 ?_
          refine lv_bipush (v := 29) hx hb dX11_hold_30 (by decide) ?_
          refine lv_iload_n hx hb dX11_hold_32 rfl (lv_at hl 2 rfl) ?_
          refine lv_imul hx hb dX11_hold_33 ?_
          refine q_top (y := 0) (by decide +kernel) ?_
          refine lv_iload_n hx hb dX11_hold_34 rfl (lv_at hl 0 rfl) ?_
          refine lv_iadd hx hb dX11_hold_35 ?_
          refine q_top (y := (nI (0 + i))) (nI_add 0 i) ?_
          refine lv_aload_n hx hb dX11_hold_36 rfl (lv_at hl 1 rfl) ?_
          refine q_get (v := .ref (a 43)) C inX11 hK hP 0 rfl rfl 43 (by decide) rfl L98 rfl dX11_hold_37 ?_
          refine lv_iload_n hx hb dX11_hold_40 rfl (lv_at hl 0 rfl) ?_
          refine q_iald (x := (f 43 (Int32.toNatClampNeg (nI i)))) C hK hP 27 1 rfl rfl (vp_in_nI (by omega) (by omega)) dX11_hold_41 (rfl) ?_
          refine q_iast (f2 := (upd φ (Int32.toNatClampNeg (nI (0 + i))) (f 43 (Int32.toNatClampNeg (nI i))))) (w2 := (mw cB cI cJ cZ h a v (va_up (va_up (va_up f 56 (upd (f 56) 0 (vp_nar .boolean 1))) 57 φ) 57 (upd φ (Int32.toNatClampNeg (nI (0 + i))) (f 43 (Int32.toNatClampNeg (nI i))))) g)) C hK hP hD hS 38 1 rfl rfl (vp_in_nI (by omega) (by omega)) dX11_hold_42 rfl (mw_f57 _) (fun H locs hP hD hS => ?_)
          refine lv_iinc (v := (nI (i + 1))) (lv' := [(2, .int (nI (i + 1))), (0, .ref h), (1, .int 0)]) hx hb dX11_hold_43 hl (k := 0) rfl (nI_1 i) (by decide) rfl (fun ls hl => ?_)
          refine lv_goto (tgt := 20) hx hb dX11_hold_46 (by decide) ?_
          rw [bx_uu] at hP hD
          exact ih (i + 1) (by omega) (upd φ (Int32.toNatClampNeg (nI (0 + i))) (f 43 (Int32.toNatClampNeg (nI i)))) H locs ls hP hD hS (lv_sub hl [0, 1, 2] rfl)
      exact loop2 29 0 (by omega) (f 57) _ _ ls hP hD hS (lv_sub hl [0, 1, 2] rfl)
    · skip
      refine lv_aload_n hx hb dX11_hold_11 rfl (lv_at hl 0 rfl) ?_
      refine q_get (v := .ref (a 56)) C inX11 hK hP 0 rfl rfl 56 (by decide) rfl L128 rfl dX11_hold_12 ?_
      refine lv_iload_n hx hb dX11_hold_15 rfl (lv_at hl 1 rfl) ?_
      refine lv_iconst (v := 1) hx hb dX11_hold_16 (by decide) ?_
      refine q_zast (f2 := (upd (f 56) 1 (vp_nar .boolean 1))) (w2 := (mw cB cI cJ cZ h a v (va_up f 56 (upd (f 56) 1 (vp_nar .boolean 1))) g)) C hK hP hD hS 37 3 rfl rfl (vp_lit (by decide +kernel)) dX11_hold_17 rfl (mw_f56 _) (fun H locs hP hD hS => ?_)
      refine lv_iconst (v := 0) hx hb dX11_hold_18 (by decide) ?_
      refine lv_istore_n (lv' := [(2, .int 0), (0, .ref h), (1, .int 1)]) hx hb dX11_hold_19 rfl hl (by decide) rfl (fun ls hl => ?_)
      have loop3 : ∀ (n i : Nat), i + n = 29 → ∀ (φ : Nat → Int32) (H : Heap) (locs : List Loc) (ls : Array Slot), va_P (dC, dI) vwCl (mw cB cI cJ cZ h a v (va_up (va_up f 56 (upd (f 56) 1 (vp_nar .boolean 1))) 57 φ) g) H → va_D A (mw cB cI cJ cZ h a v (va_up (va_up f 56 (upd (f 56) 1 (vp_nar .boolean 1))) 57 φ) g) → va_S A s.heap H locs → lv_has ls 3 [(2, .int (nI i)), (0, .ref h), (1, .int 1)] → W p l e ({ frames := 1, cells := 0, slots := 0, locals := 22 }) s m [Value.ref h, Value.int 1].toArray below meth c H locs 0 0 (MQ below (va_Qi (fun r _ => r = (sp_in 1 0 2)) (at_W (dC, dI) (tysA cB cI cJ cZ cS) A) A) [Value.ref h, Value.int 1].toArray s 0 0 A) (F0 m 20 ls []) := by
        intro n
        induction n with
        | zero =>
          intro i hi φ H locs ls hP hD hS hl
          obtain rfl : i = 29 := by omega
          refine lv_iload_n hx hb dX11_hold_20 rfl (lv_at hl 0 rfl) ?_
          refine lv_bipush (v := 29) hx hb dX11_hold_21 (by decide) ?_
          refine lv_icmp_ge (tgt := 49) hx hb dX11_hold_23 (by decide) (fun _ => ?_) (fun h => absurd (by decide +kernel) h)
          refine lv_iconst (v := 1) hx hb dX11_hold_49 (by decide) ?_
          exact q_zret C hr hlocks (Or.inr rfl) hK hP hD hS (Nat.le_of_ble_eq_true rfl) (Nat.le_of_ble_eq_true rfl) dX11_hold_50 (by decide +kernel)
        | succ n ih =>
          intro i hi φ H locs ls hP hD hS hl
          refine lv_iload_n hx hb dX11_hold_20 rfl (lv_at hl 0 rfl) ?_
          refine lv_bipush (v := 29) hx hb dX11_hold_21 (by decide) ?_
          refine lv_icmp_ge (tgt := 49) hx hb dX11_hold_23 (by decide) (fun h => absurd h (nI_nge (n := 29) (by omega) (by omega))) (fun _ => ?_)
          refine lv_aload_n hx hb dX11_hold_26 rfl (lv_at hl 1 rfl) ?_
          refine q_get (v := .ref (a 57)) C inX11 hK hP 0 rfl rfl 57 (by decide) rfl L131 rfl dX11_hold_27 ?_
          refine lv_bipush (v := 29) hx hb dX11_hold_30 (by decide) ?_
          refine lv_iload_n hx hb dX11_hold_32 rfl (lv_at hl 2 rfl) ?_
          refine lv_imul hx hb dX11_hold_33 ?_
          refine q_top (y := 29) (by decide +kernel) ?_
          refine lv_iload_n hx hb dX11_hold_34 rfl (lv_at hl 0 rfl) ?_
          refine lv_iadd hx hb dX11_hold_35 ?_
          refine q_top (y := (nI (29 + i))) (nI_add 29 i) ?_
          refine lv_aload_n hx hb dX11_hold_36 rfl (lv_at hl 1 rfl) ?_
          refine q_get (v := .ref (a 43)) C inX11 hK hP 0 rfl rfl 43 (by decide) rfl L98 rfl dX11_hold_37 ?_
          refine lv_iload_n hx hb dX11_hold_40 rfl (lv_at hl 0 rfl) ?_
          refine q_iald (x := (f 43 (Int32.toNatClampNeg (nI i)))) C hK hP 27 1 rfl rfl (vp_in_nI (by omega) (by omega)) dX11_hold_41 (rfl) ?_
          refine q_iast (f2 := (upd φ (Int32.toNatClampNeg (nI (29 + i))) (f 43 (Int32.toNatClampNeg (nI i))))) (w2 := (mw cB cI cJ cZ h a v (va_up (va_up (va_up f 56 (upd (f 56) 1 (vp_nar .boolean 1))) 57 φ) 57 (upd φ (Int32.toNatClampNeg (nI (29 + i))) (f 43 (Int32.toNatClampNeg (nI i))))) g)) C hK hP hD hS 38 1 rfl rfl (vp_in_nI (by omega) (by omega)) dX11_hold_42 rfl (mw_f57 _) (fun H locs hP hD hS => ?_)
          refine lv_iinc (v := (nI (i + 1))) (lv' := [(2, .int (nI (i + 1))), (0, .ref h), (1, .int 1)]) hx hb dX11_hold_43 hl (k := 0) rfl (nI_1 i) (by decide) rfl (fun ls hl => ?_)
          refine lv_goto (tgt := 20) hx hb dX11_hold_46 (by decide) ?_
          rw [bx_uu] at hP hD
          exact ih (i + 1) (by omega) (upd φ (Int32.toNatClampNeg (nI (29 + i))) (f 43 (Int32.toNatClampNeg (nI i)))) H locs ls hP hD hS (lv_sub hl [0, 1, 2] rfl)
      exact loop3 29 0 (by omega) (f 57) _ _ ls hP hD hS (lv_sub hl [0, 1, 2] rfl)
    · skip
      refine lv_aload_n hx hb dX11_hold_11 rfl (lv_at hl 0 rfl) ?_
      refine q_get (v := .ref (a 56)) C inX11 hK hP 0 rfl rfl 56 (by decide) rfl L128 rfl dX11_hold_12 ?_
      refine lv_iload_n hx hb dX11_hold_15 rfl (lv_at hl 1 rfl) ?_
      refine lv_iconst (v := 1) hx hb dX11_hold_16 (by decide) ?_
      refine q_zast (f2 := (upd (f 56) 2 (vp_nar .boolean 1))) (w2 := (mw cB cI cJ cZ h a v (va_up f 56 (upd (f 56) 2 (vp_nar .boolean 1))) g)) C hK hP hD hS 37 3 rfl rfl (vp_lit (by decide +kernel)) dX11_hold_17 rfl (mw_f56 _) (fun H locs hP hD hS => ?_)
      refine lv_iconst (v := 0) hx hb dX11_hold_18 (by decide) ?_
      refine lv_istore_n (lv' := [(2, .int 0), (0, .ref h), (1, .int 2)]) hx hb dX11_hold_19 rfl hl (by decide) rfl (fun ls hl => ?_)
      have loop4 : ∀ (n i : Nat), i + n = 29 → ∀ (φ : Nat → Int32) (H : Heap) (locs : List Loc) (ls : Array Slot), va_P (dC, dI) vwCl (mw cB cI cJ cZ h a v (va_up (va_up f 56 (upd (f 56) 2 (vp_nar .boolean 1))) 57 φ) g) H → va_D A (mw cB cI cJ cZ h a v (va_up (va_up f 56 (upd (f 56) 2 (vp_nar .boolean 1))) 57 φ) g) → va_S A s.heap H locs → lv_has ls 3 [(2, .int (nI i)), (0, .ref h), (1, .int 2)] → W p l e ({ frames := 1, cells := 0, slots := 0, locals := 22 }) s m [Value.ref h, Value.int 2].toArray below meth c H locs 0 0 (MQ below (va_Qi (fun r _ => r = (sp_in 2 0 2)) (at_W (dC, dI) (tysA cB cI cJ cZ cS) A) A) [Value.ref h, Value.int 2].toArray s 0 0 A) (F0 m 20 ls []) := by
        intro n
        induction n with
        | zero =>
          intro i hi φ H locs ls hP hD hS hl
          obtain rfl : i = 29 := by omega
          refine lv_iload_n hx hb dX11_hold_20 rfl (lv_at hl 0 rfl) ?_
          refine lv_bipush (v := 29) hx hb dX11_hold_21 (by decide) ?_
          refine lv_icmp_ge (tgt := 49) hx hb dX11_hold_23 (by decide) (fun _ => ?_) (fun h => absurd (by decide +kernel) h)
          refine lv_iconst (v := 1) hx hb dX11_hold_49 (by decide) ?_
          exact q_zret C hr hlocks (Or.inr rfl) hK hP hD hS (Nat.le_of_ble_eq_true rfl) (Nat.le_of_ble_eq_true rfl) dX11_hold_50 (by decide +kernel)
        | succ n ih =>
          intro i hi φ H locs ls hP hD hS hl
          refine lv_iload_n hx hb dX11_hold_20 rfl (lv_at hl 0 rfl) ?_
          refine lv_bipush (v := 29) hx hb dX11_hold_21 (by decide) ?_
          refine lv_icmp_ge (tgt := 49) hx hb dX11_hold_23 (by decide) (fun h => absurd h (nI_nge (n := 29) (by omega) (by omega))) (fun _ => ?_)
          refine lv_aload_n hx hb dX11_hold_26 rfl (lv_at hl 1 rfl) ?_
          refine q_get (v := .ref (a 57)) C inX11 hK hP 0 rfl rfl 57 (by decide) rfl L131 rfl dX11_hold_27 ?_
          refine lv_bipush (v := 29) hx hb dX11_hold_30 (by decide) ?_
          refine lv_iload_n hx hb dX11_hold_32 rfl (lv_at hl 2 rfl) ?_
          refine lv_imul hx hb dX11_hold_33 ?_
          refine q_top (y := 58) (by decide +kernel) ?_
          refine lv_iload_n hx hb dX11_hold_34 rfl (lv_at hl 0 rfl) ?_
          refine lv_iadd hx hb dX11_hold_35 ?_
          refine q_top (y := (nI (58 + i))) (nI_add 58 i) ?_
          refine lv_aload_n hx hb dX11_hold_36 rfl (lv_at hl 1 rfl) ?_
          refine q_get (v := .ref (a 43)) C inX11 hK hP 0 rfl rfl 43 (by decide) rfl L98 rfl dX11_hold_37 ?_
          refine lv_iload_n hx hb dX11_hold_40 rfl (lv_at hl 0 rfl) ?_
          refine q_iald (x := (f 43 (Int32.toNatClampNeg (nI i)))) C hK hP 27 1 rfl rfl (vp_in_nI (by omega) (by omega)) dX11_hold_41 (rfl) ?_
          refine q_iast (f2 := (upd φ (Int32.toNatClampNeg (nI (58 + i))) (f 43 (Int32.toNatClampNeg (nI i))))) (w2 := (mw cB cI cJ cZ h a v (va_up (va_up (va_up f 56 (upd (f 56) 2 (vp_nar .boolean 1))) 57 φ) 57 (upd φ (Int32.toNatClampNeg (nI (58 + i))) (f 43 (Int32.toNatClampNeg (nI i))))) g)) C hK hP hD hS 38 1 rfl rfl (vp_in_nI (by omega) (by omega)) dX11_hold_42 rfl (mw_f57 _) (fun H locs hP hD hS => ?_)
          refine lv_iinc (v := (nI (i + 1))) (lv' := [(2, .int (nI (i + 1))), (0, .ref h), (1, .int 2)]) hx hb dX11_hold_43 hl (k := 0) rfl (nI_1 i) (by decide) rfl (fun ls hl => ?_)
          refine lv_goto (tgt := 20) hx hb dX11_hold_46 (by decide) ?_
          rw [bx_uu] at hP hD
          exact ih (i + 1) (by omega) (upd φ (Int32.toNatClampNeg (nI (58 + i))) (f 43 (Int32.toNatClampNeg (nI i)))) H locs ls hP hD hS (lv_sub hl [0, 1, 2] rfl)
      exact loop4 29 0 (by omega) (f 57) _ _ ls hP hD hS (lv_sub hl [0, 1, 2] rfl)
  · skip
    refine lv_iconst (v := 0) hx hb dX11_hold_9 (by decide) ?_
    exact q_zret C hr hlocks (Or.inl rfl) hK hP hD hS (Nat.le_of_ble_eq_true rfl) (Nat.le_of_ble_eq_true rfl) dX11_hold_10 (c1.symm)

set_option maxHeartbeats 4000000 in
set_option maxRecDepth 100000 in
theorem c_restore (l : Launch) (dC : Nat → ClassId) (dI : Nat → Nat → Nat) (cB cI cJ cZ cS : ClassId) (h : Nat) (a : Nat → Nat) (v : Nat → Int32) (f : Nat → Nat → Int32) (g : Nat → Nat → Int64) (hf56_0 : f 56 0 = 0) (hf56_1 : f 56 1 = 0) (hf56_2 : f 56 2 = 0) (x1 : Int32) : CI l yX11_restore wsX11_restore ({ frames := 1, cells := 0, slots := 0, locals := 22 }) (dC, dI) (tysA cB cI cJ cZ cS) (mw cB cI cJ cZ h a v f g) [.ref h, .int x1] (fun r _ => r = 0) := by
  refine open_I (cc := cX11_restore) (maxL := 3) (ret := (some .boolean)) (by decide) rfl (Nat.le_of_ble_eq_true rfl) ?_
  intro p e s m below meth c A ls E
  obtain ⟨C, hr, hlocks, hnm, hA, hP, hK, hD, hN, hl⟩ := E
  obtain ⟨hx, hb, hml, hown, hts⟩ := id C
  have hS : va_S A s.heap s.heap [] := va_S.rf
  have hl : lv_has ls 3 [(0, .ref h), (1, .int x1)] := hl
  have inX11 : ∀ w ∈ u_ws RX11 TX11 58, w ∈ wsX11_restore := fun _ h => List.mem_cons_of_mem _ (List.mem_append_right _ h)
  have L128 : Cond.fieldLink RX11 128 "GuessFerryModel" "isHeld" "[Z" ∈ wsX11_restore := by decide +kernel
  refine lv_iload_n hx hb dX11_restore_0 rfl (lv_at hl 1 rfl) ?_
  refine lv_iconst (v := 0) hx hb dX11_restore_1 (by decide) ?_
  refine lv_iconst (v := 2) hx hb dX11_restore_2 (by decide) ?_
  refine q_goi0 (va_runS (As := [.int x1, .int 0, .int 2]) (rest := []) C (c_in l dC dI cB cI cJ cZ cS x1 0 2 _) (va_cwS 3 hts gX11_restore_X11_in rfl rfl rfl (by decide +kernel) ⟨Nat.le_of_ble_eq_true rfl, Nat.le_of_ble_eq_true rfl⟩) (q_pre0 hN hK) rfl rfl hl.1 rfl (lv_room (Nat.le_of_ble_eq_true rfl)) dX11_restore_3 ⟨Nat.le_of_ble_eq_true rfl, Nat.le_of_ble_eq_true rfl⟩) hP hD hS hA (fun r w1 H locs hw hP hS => ?_)
  obtain rfl := hw
  refine lv_if_eq (tgt := 18) hx hb dX11_restore_6 (by decide) (fun c1 => ?_) (fun c1 => ?_)
  · skip
    refine lv_iconst (v := 0) hx hb dX11_restore_18 (by decide) ?_
    exact q_zret C hr hlocks (Or.inl rfl) hK hP hD hS (Nat.le_of_ble_eq_true rfl) (Nat.le_of_ble_eq_true rfl) dX11_restore_19 (rfl)
  · skip
    obtain rfl | rfl | rfl := sp_in_3c c1
    · skip
      refine lv_aload_n hx hb dX11_restore_9 rfl (lv_at hl 0 rfl) ?_
      refine q_get (v := .ref (a 56)) C inX11 hK hP 0 rfl rfl 56 (by decide) rfl L128 rfl dX11_restore_10 ?_
      refine lv_iload_n hx hb dX11_restore_13 rfl (lv_at hl 1 rfl) ?_
      refine q_zald (x := 0) C hK hP 37 3 rfl rfl (vp_lit (by decide +kernel)) dX11_restore_14 (hf56_0) ?_
      refine lv_if_ne (tgt := 20) hx hb dX11_restore_15 (by decide) (fun h => absurd (by decide +kernel) h) (fun _ => ?_)
      refine lv_iconst (v := 0) hx hb dX11_restore_18 (by decide) ?_
      exact q_zret C hr hlocks (Or.inl rfl) hK hP hD hS (Nat.le_of_ble_eq_true rfl) (Nat.le_of_ble_eq_true rfl) dX11_restore_19 (rfl)
    · skip
      refine lv_aload_n hx hb dX11_restore_9 rfl (lv_at hl 0 rfl) ?_
      refine q_get (v := .ref (a 56)) C inX11 hK hP 0 rfl rfl 56 (by decide) rfl L128 rfl dX11_restore_10 ?_
      refine lv_iload_n hx hb dX11_restore_13 rfl (lv_at hl 1 rfl) ?_
      refine q_zald (x := 0) C hK hP 37 3 rfl rfl (vp_lit (by decide +kernel)) dX11_restore_14 (hf56_1) ?_
      refine lv_if_ne (tgt := 20) hx hb dX11_restore_15 (by decide) (fun h => absurd (by decide +kernel) h) (fun _ => ?_)
      refine lv_iconst (v := 0) hx hb dX11_restore_18 (by decide) ?_
      exact q_zret C hr hlocks (Or.inl rfl) hK hP hD hS (Nat.le_of_ble_eq_true rfl) (Nat.le_of_ble_eq_true rfl) dX11_restore_19 (rfl)
    · skip
      refine lv_aload_n hx hb dX11_restore_9 rfl (lv_at hl 0 rfl) ?_
      refine q_get (v := .ref (a 56)) C inX11 hK hP 0 rfl rfl 56 (by decide) rfl L128 rfl dX11_restore_10 ?_
      refine lv_iload_n hx hb dX11_restore_13 rfl (lv_at hl 1 rfl) ?_
      refine q_zald (x := 0) C hK hP 37 3 rfl rfl (vp_lit (by decide +kernel)) dX11_restore_14 (hf56_2) ?_
      refine lv_if_ne (tgt := 20) hx hb dX11_restore_15 (by decide) (fun h => absurd (by decide +kernel) h) (fun _ => ?_)
      refine lv_iconst (v := 0) hx hb dX11_restore_18 (by decide) ?_
      exact q_zret C hr hlocks (Or.inl rfl) hK hP hD hS (Nat.le_of_ble_eq_true rfl) (Nat.le_of_ble_eq_true rfl) dX11_restore_19 (rfl)

set_option maxHeartbeats 4000000 in
set_option maxRecDepth 100000 in
theorem c_sumNow21 (l : Launch) (dC : Nat → ClassId) (dI : Nat → Nat → Nat) (cB cI cJ cZ cS : ClassId) (h : Nat) (a : Nat → Nat) (v : Nat → Int32) (f : Nat → Nat → Int32) (g : Nat → Nat → Int64) (hf43_21 : f 43 21 = 0) (hf43_22 : f 43 22 = 0) (hf43_23 : f 43 23 = 0) (hf43_24 : f 43 24 = 0) (hf43_25 : f 43 25 = 0) (hf43_26 : f 43 26 = 0) : CI l yX11_sumNow wsX11_sumNow ({ frames := 0, cells := 0, slots := 0, locals := 0 }) (dC, dI) (tysA cB cI cJ cZ cS) (mw cB cI cJ cZ h a v f g) [.ref h, .int 21, .int 6] (fun r w => w = (mw cB cI cJ cZ h a v f g) ∧ r = 0) := by
  refine open_I (cc := cX11_sumNow) (maxL := 5) (ret := (some .int)) (by decide) rfl (Nat.le_of_ble_eq_true rfl) ?_
  intro p e s m below meth c A ls E
  obtain ⟨C, hr, hlocks, hnm, hA, hP, hK, hD, hN, hl⟩ := E
  obtain ⟨hx, hb, hml, hown, hts⟩ := id C
  have hS : va_S A s.heap s.heap [] := va_S.rf
  have hl : lv_has ls 5 [(0, .ref h), (1, .int 21), (2, .int 6)] := hl
  have inX11 : ∀ w ∈ u_ws RX11 TX11 58, w ∈ wsX11_sumNow := fun _ h => List.mem_cons_of_mem _ (List.mem_append_right _ h)
  have L98 : Cond.fieldLink RX11 98 "GuessFerryModel" "now" "[I" ∈ wsX11_sumNow := by decide +kernel
  refine lv_iconst (v := 0) hx hb dX11_sumNow_0 (by decide) ?_
  refine lv_istore_n (lv' := [(3, .int 0), (0, .ref h), (1, .int 21), (2, .int 6)]) hx hb dX11_sumNow_1 rfl hl (by decide) rfl (fun ls hl => ?_)
  refine lv_iload_n hx hb dX11_sumNow_2 rfl (lv_at hl 2 rfl) ?_
  refine lv_istore (lv' := [(4, .int 21), (3, .int 0), (0, .ref h), (1, .int 21), (2, .int 6)]) hx hb dX11_sumNow_3 hl (by decide) rfl (fun ls hl => ?_)
  refine lv_iload hx hb dX11_sumNow_5 (lv_at hl 0 rfl) ?_
  refine lv_iload_n hx hb dX11_sumNow_7 rfl (lv_at hl 3 rfl) ?_
  refine lv_iload_n hx hb dX11_sumNow_8 rfl (lv_at hl 4 rfl) ?_
  refine lv_iadd hx hb dX11_sumNow_9 ?_
  refine q_top (y := 27) (by decide +kernel) ?_
  refine lv_icmp_ge (tgt := 29) hx hb dX11_sumNow_10 (by decide) (fun h => absurd h (by decide +kernel)) (fun _ => ?_)
  refine lv_iload_n hx hb dX11_sumNow_13 rfl (lv_at hl 1 rfl) ?_
  refine lv_aload_n hx hb dX11_sumNow_14 rfl (lv_at hl 2 rfl) ?_
  refine q_get (v := .ref (a 43)) C inX11 hK hP 0 rfl rfl 43 (by decide) rfl L98 rfl dX11_sumNow_15 ?_
  refine lv_iload hx hb dX11_sumNow_18 (lv_at hl 0 rfl) ?_
  refine q_iald (x := 0) C hK hP 27 1 rfl rfl (vp_lit (by decide +kernel)) dX11_sumNow_20 (hf43_21) ?_
  refine lv_iadd hx hb dX11_sumNow_21 ?_
  refine q_top (y := 0) (by decide +kernel) ?_
  refine lv_istore_n (lv' := [(3, .int 0), (4, .int 21), (0, .ref h), (1, .int 21), (2, .int 6)]) hx hb dX11_sumNow_22 rfl hl (by decide) rfl (fun ls hl => ?_)
  refine lv_iinc (v := 22) (lv' := [(4, .int 22), (3, .int 0), (0, .ref h), (1, .int 21), (2, .int 6)]) hx hb dX11_sumNow_23 hl (k := 1) rfl (by decide +kernel) (by decide) rfl (fun ls hl => ?_)
  refine lv_goto (tgt := 5) hx hb dX11_sumNow_26 (by decide) ?_
  refine lv_iload hx hb dX11_sumNow_5 (lv_at hl 0 rfl) ?_
  refine lv_iload_n hx hb dX11_sumNow_7 rfl (lv_at hl 3 rfl) ?_
  refine lv_iload_n hx hb dX11_sumNow_8 rfl (lv_at hl 4 rfl) ?_
  refine lv_iadd hx hb dX11_sumNow_9 ?_
  refine q_top (y := 27) (by decide +kernel) ?_
  refine lv_icmp_ge (tgt := 29) hx hb dX11_sumNow_10 (by decide) (fun h => absurd h (by decide +kernel)) (fun _ => ?_)
  refine lv_iload_n hx hb dX11_sumNow_13 rfl (lv_at hl 1 rfl) ?_
  refine lv_aload_n hx hb dX11_sumNow_14 rfl (lv_at hl 2 rfl) ?_
  refine q_get (v := .ref (a 43)) C inX11 hK hP 0 rfl rfl 43 (by decide) rfl L98 rfl dX11_sumNow_15 ?_
  refine lv_iload hx hb dX11_sumNow_18 (lv_at hl 0 rfl) ?_
  refine q_iald (x := 0) C hK hP 27 1 rfl rfl (vp_lit (by decide +kernel)) dX11_sumNow_20 (hf43_22) ?_
  refine lv_iadd hx hb dX11_sumNow_21 ?_
  refine q_top (y := 0) (by decide +kernel) ?_
  refine lv_istore_n (lv' := [(3, .int 0), (4, .int 22), (0, .ref h), (1, .int 21), (2, .int 6)]) hx hb dX11_sumNow_22 rfl hl (by decide) rfl (fun ls hl => ?_)
  refine lv_iinc (v := 23) (lv' := [(4, .int 23), (3, .int 0), (0, .ref h), (1, .int 21), (2, .int 6)]) hx hb dX11_sumNow_23 hl (k := 1) rfl (by decide +kernel) (by decide) rfl (fun ls hl => ?_)
  refine lv_goto (tgt := 5) hx hb dX11_sumNow_26 (by decide) ?_
  refine lv_iload hx hb dX11_sumNow_5 (lv_at hl 0 rfl) ?_
  refine lv_iload_n hx hb dX11_sumNow_7 rfl (lv_at hl 3 rfl) ?_
  refine lv_iload_n hx hb dX11_sumNow_8 rfl (lv_at hl 4 rfl) ?_
  refine lv_iadd hx hb dX11_sumNow_9 ?_
  refine q_top (y := 27) (by decide +kernel) ?_
  refine lv_icmp_ge (tgt := 29) hx hb dX11_sumNow_10 (by decide) (fun h => absurd h (by decide +kernel)) (fun _ => ?_)
  refine lv_iload_n hx hb dX11_sumNow_13 rfl (lv_at hl 1 rfl) ?_
  refine lv_aload_n hx hb dX11_sumNow_14 rfl (lv_at hl 2 rfl) ?_
  refine q_get (v := .ref (a 43)) C inX11 hK hP 0 rfl rfl 43 (by decide) rfl L98 rfl dX11_sumNow_15 ?_
  refine lv_iload hx hb dX11_sumNow_18 (lv_at hl 0 rfl) ?_
  refine q_iald (x := 0) C hK hP 27 1 rfl rfl (vp_lit (by decide +kernel)) dX11_sumNow_20 (hf43_23) ?_
  refine lv_iadd hx hb dX11_sumNow_21 ?_
  refine q_top (y := 0) (by decide +kernel) ?_
  refine lv_istore_n (lv' := [(3, .int 0), (4, .int 23), (0, .ref h), (1, .int 21), (2, .int 6)]) hx hb dX11_sumNow_22 rfl hl (by decide) rfl (fun ls hl => ?_)
  refine lv_iinc (v := 24) (lv' := [(4, .int 24), (3, .int 0), (0, .ref h), (1, .int 21), (2, .int 6)]) hx hb dX11_sumNow_23 hl (k := 1) rfl (by decide +kernel) (by decide) rfl (fun ls hl => ?_)
  refine lv_goto (tgt := 5) hx hb dX11_sumNow_26 (by decide) ?_
  refine lv_iload hx hb dX11_sumNow_5 (lv_at hl 0 rfl) ?_
  refine lv_iload_n hx hb dX11_sumNow_7 rfl (lv_at hl 3 rfl) ?_
  refine lv_iload_n hx hb dX11_sumNow_8 rfl (lv_at hl 4 rfl) ?_
  refine lv_iadd hx hb dX11_sumNow_9 ?_
  refine q_top (y := 27) (by decide +kernel) ?_
  refine lv_icmp_ge (tgt := 29) hx hb dX11_sumNow_10 (by decide) (fun h => absurd h (by decide +kernel)) (fun _ => ?_)
  refine lv_iload_n hx hb dX11_sumNow_13 rfl (lv_at hl 1 rfl) ?_
  refine lv_aload_n hx hb dX11_sumNow_14 rfl (lv_at hl 2 rfl) ?_
  refine q_get (v := .ref (a 43)) C inX11 hK hP 0 rfl rfl 43 (by decide) rfl L98 rfl dX11_sumNow_15 ?_
  refine lv_iload hx hb dX11_sumNow_18 (lv_at hl 0 rfl) ?_
  refine q_iald (x := 0) C hK hP 27 1 rfl rfl (vp_lit (by decide +kernel)) dX11_sumNow_20 (hf43_24) ?_
  refine lv_iadd hx hb dX11_sumNow_21 ?_
  refine q_top (y := 0) (by decide +kernel) ?_
  refine lv_istore_n (lv' := [(3, .int 0), (4, .int 24), (0, .ref h), (1, .int 21), (2, .int 6)]) hx hb dX11_sumNow_22 rfl hl (by decide) rfl (fun ls hl => ?_)
  refine lv_iinc (v := 25) (lv' := [(4, .int 25), (3, .int 0), (0, .ref h), (1, .int 21), (2, .int 6)]) hx hb dX11_sumNow_23 hl (k := 1) rfl (by decide +kernel) (by decide) rfl (fun ls hl => ?_)
  refine lv_goto (tgt := 5) hx hb dX11_sumNow_26 (by decide) ?_
  refine lv_iload hx hb dX11_sumNow_5 (lv_at hl 0 rfl) ?_
  refine lv_iload_n hx hb dX11_sumNow_7 rfl (lv_at hl 3 rfl) ?_
  refine lv_iload_n hx hb dX11_sumNow_8 rfl (lv_at hl 4 rfl) ?_
  refine lv_iadd hx hb dX11_sumNow_9 ?_
  refine q_top (y := 27) (by decide +kernel) ?_
  refine lv_icmp_ge (tgt := 29) hx hb dX11_sumNow_10 (by decide) (fun h => absurd h (by decide +kernel)) (fun _ => ?_)
  refine lv_iload_n hx hb dX11_sumNow_13 rfl (lv_at hl 1 rfl) ?_
  refine lv_aload_n hx hb dX11_sumNow_14 rfl (lv_at hl 2 rfl) ?_
  refine q_get (v := .ref (a 43)) C inX11 hK hP 0 rfl rfl 43 (by decide) rfl L98 rfl dX11_sumNow_15 ?_
  refine lv_iload hx hb dX11_sumNow_18 (lv_at hl 0 rfl) ?_
  refine q_iald (x := 0) C hK hP 27 1 rfl rfl (vp_lit (by decide +kernel)) dX11_sumNow_20 (hf43_25) ?_
  refine lv_iadd hx hb dX11_sumNow_21 ?_
  refine q_top (y := 0) (by decide +kernel) ?_
  refine lv_istore_n (lv' := [(3, .int 0), (4, .int 25), (0, .ref h), (1, .int 21), (2, .int 6)]) hx hb dX11_sumNow_22 rfl hl (by decide) rfl (fun ls hl => ?_)
  refine lv_iinc (v := 26) (lv' := [(4, .int 26), (3, .int 0), (0, .ref h), (1, .int 21), (2, .int 6)]) hx hb dX11_sumNow_23 hl (k := 1) rfl (by decide +kernel) (by decide) rfl (fun ls hl => ?_)
  refine lv_goto (tgt := 5) hx hb dX11_sumNow_26 (by decide) ?_
  refine lv_iload hx hb dX11_sumNow_5 (lv_at hl 0 rfl) ?_
  refine lv_iload_n hx hb dX11_sumNow_7 rfl (lv_at hl 3 rfl) ?_
  refine lv_iload_n hx hb dX11_sumNow_8 rfl (lv_at hl 4 rfl) ?_
  refine lv_iadd hx hb dX11_sumNow_9 ?_
  refine q_top (y := 27) (by decide +kernel) ?_
  refine lv_icmp_ge (tgt := 29) hx hb dX11_sumNow_10 (by decide) (fun h => absurd h (by decide +kernel)) (fun _ => ?_)
  refine lv_iload_n hx hb dX11_sumNow_13 rfl (lv_at hl 1 rfl) ?_
  refine lv_aload_n hx hb dX11_sumNow_14 rfl (lv_at hl 2 rfl) ?_
  refine q_get (v := .ref (a 43)) C inX11 hK hP 0 rfl rfl 43 (by decide) rfl L98 rfl dX11_sumNow_15 ?_
  refine lv_iload hx hb dX11_sumNow_18 (lv_at hl 0 rfl) ?_
  refine q_iald (x := 0) C hK hP 27 1 rfl rfl (vp_lit (by decide +kernel)) dX11_sumNow_20 (hf43_26) ?_
  refine lv_iadd hx hb dX11_sumNow_21 ?_
  refine q_top (y := 0) (by decide +kernel) ?_
  refine lv_istore_n (lv' := [(3, .int 0), (4, .int 26), (0, .ref h), (1, .int 21), (2, .int 6)]) hx hb dX11_sumNow_22 rfl hl (by decide) rfl (fun ls hl => ?_)
  refine lv_iinc (v := 27) (lv' := [(4, .int 27), (3, .int 0), (0, .ref h), (1, .int 21), (2, .int 6)]) hx hb dX11_sumNow_23 hl (k := 1) rfl (by decide +kernel) (by decide) rfl (fun ls hl => ?_)
  refine lv_goto (tgt := 5) hx hb dX11_sumNow_26 (by decide) ?_
  refine lv_iload hx hb dX11_sumNow_5 (lv_at hl 0 rfl) ?_
  refine lv_iload_n hx hb dX11_sumNow_7 rfl (lv_at hl 3 rfl) ?_
  refine lv_iload_n hx hb dX11_sumNow_8 rfl (lv_at hl 4 rfl) ?_
  refine lv_iadd hx hb dX11_sumNow_9 ?_
  refine q_top (y := 27) (by decide +kernel) ?_
  refine lv_icmp_ge (tgt := 29) hx hb dX11_sumNow_10 (by decide) (fun _ => ?_) (fun h => absurd (by decide +kernel) h)
  refine lv_iload_n hx hb dX11_sumNow_29 rfl (lv_at hl 1 rfl) ?_
  exact q_iret C hr hlocks hK hP hD hS (Nat.le_of_ble_eq_true rfl) (Nat.le_of_ble_eq_true rfl) dX11_sumNow_30 (⟨rfl, rfl⟩)

set_option maxHeartbeats 4000000 in
set_option maxRecDepth 100000 in
theorem c_sumNow10 (l : Launch) (dC : Nat → ClassId) (dI : Nat → Nat → Nat) (cB cI cJ cZ cS : ClassId) (h : Nat) (a : Nat → Nat) (v : Nat → Int32) (f : Nat → Nat → Int32) (g : Nat → Nat → Int64) (hf43_10 : f 43 10 = 0) (hf43_11 : f 43 11 = 0) (hf43_12 : f 43 12 = 0) (hf43_13 : f 43 13 = 0) (hf43_14 : f 43 14 = 0) : CI l yX11_sumNow wsX11_sumNow ({ frames := 0, cells := 0, slots := 0, locals := 0 }) (dC, dI) (tysA cB cI cJ cZ cS) (mw cB cI cJ cZ h a v f g) [.ref h, .int 10, .int 5] (fun r w => w = (mw cB cI cJ cZ h a v f g) ∧ r = 0) := by
  refine open_I (cc := cX11_sumNow) (maxL := 5) (ret := (some .int)) (by decide) rfl (Nat.le_of_ble_eq_true rfl) ?_
  intro p e s m below meth c A ls E
  obtain ⟨C, hr, hlocks, hnm, hA, hP, hK, hD, hN, hl⟩ := E
  obtain ⟨hx, hb, hml, hown, hts⟩ := id C
  have hS : va_S A s.heap s.heap [] := va_S.rf
  have hl : lv_has ls 5 [(0, .ref h), (1, .int 10), (2, .int 5)] := hl
  have inX11 : ∀ w ∈ u_ws RX11 TX11 58, w ∈ wsX11_sumNow := fun _ h => List.mem_cons_of_mem _ (List.mem_append_right _ h)
  have L98 : Cond.fieldLink RX11 98 "GuessFerryModel" "now" "[I" ∈ wsX11_sumNow := by decide +kernel
  refine lv_iconst (v := 0) hx hb dX11_sumNow_0 (by decide) ?_
  refine lv_istore_n (lv' := [(3, .int 0), (0, .ref h), (1, .int 10), (2, .int 5)]) hx hb dX11_sumNow_1 rfl hl (by decide) rfl (fun ls hl => ?_)
  refine lv_iload_n hx hb dX11_sumNow_2 rfl (lv_at hl 2 rfl) ?_
  refine lv_istore (lv' := [(4, .int 10), (3, .int 0), (0, .ref h), (1, .int 10), (2, .int 5)]) hx hb dX11_sumNow_3 hl (by decide) rfl (fun ls hl => ?_)
  refine lv_iload hx hb dX11_sumNow_5 (lv_at hl 0 rfl) ?_
  refine lv_iload_n hx hb dX11_sumNow_7 rfl (lv_at hl 3 rfl) ?_
  refine lv_iload_n hx hb dX11_sumNow_8 rfl (lv_at hl 4 rfl) ?_
  refine lv_iadd hx hb dX11_sumNow_9 ?_
  refine q_top (y := 15) (by decide +kernel) ?_
  refine lv_icmp_ge (tgt := 29) hx hb dX11_sumNow_10 (by decide) (fun h => absurd h (by decide +kernel)) (fun _ => ?_)
  refine lv_iload_n hx hb dX11_sumNow_13 rfl (lv_at hl 1 rfl) ?_
  refine lv_aload_n hx hb dX11_sumNow_14 rfl (lv_at hl 2 rfl) ?_
  refine q_get (v := .ref (a 43)) C inX11 hK hP 0 rfl rfl 43 (by decide) rfl L98 rfl dX11_sumNow_15 ?_
  refine lv_iload hx hb dX11_sumNow_18 (lv_at hl 0 rfl) ?_
  refine q_iald (x := 0) C hK hP 27 1 rfl rfl (vp_lit (by decide +kernel)) dX11_sumNow_20 (hf43_10) ?_
  refine lv_iadd hx hb dX11_sumNow_21 ?_
  refine q_top (y := 0) (by decide +kernel) ?_
  refine lv_istore_n (lv' := [(3, .int 0), (4, .int 10), (0, .ref h), (1, .int 10), (2, .int 5)]) hx hb dX11_sumNow_22 rfl hl (by decide) rfl (fun ls hl => ?_)
  refine lv_iinc (v := 11) (lv' := [(4, .int 11), (3, .int 0), (0, .ref h), (1, .int 10), (2, .int 5)]) hx hb dX11_sumNow_23 hl (k := 1) rfl (by decide +kernel) (by decide) rfl (fun ls hl => ?_)
  refine lv_goto (tgt := 5) hx hb dX11_sumNow_26 (by decide) ?_
  refine lv_iload hx hb dX11_sumNow_5 (lv_at hl 0 rfl) ?_
  refine lv_iload_n hx hb dX11_sumNow_7 rfl (lv_at hl 3 rfl) ?_
  refine lv_iload_n hx hb dX11_sumNow_8 rfl (lv_at hl 4 rfl) ?_
  refine lv_iadd hx hb dX11_sumNow_9 ?_
  refine q_top (y := 15) (by decide +kernel) ?_
  refine lv_icmp_ge (tgt := 29) hx hb dX11_sumNow_10 (by decide) (fun h => absurd h (by decide +kernel)) (fun _ => ?_)
  refine lv_iload_n hx hb dX11_sumNow_13 rfl (lv_at hl 1 rfl) ?_
  refine lv_aload_n hx hb dX11_sumNow_14 rfl (lv_at hl 2 rfl) ?_
  refine q_get (v := .ref (a 43)) C inX11 hK hP 0 rfl rfl 43 (by decide) rfl L98 rfl dX11_sumNow_15 ?_
  refine lv_iload hx hb dX11_sumNow_18 (lv_at hl 0 rfl) ?_
  refine q_iald (x := 0) C hK hP 27 1 rfl rfl (vp_lit (by decide +kernel)) dX11_sumNow_20 (hf43_11) ?_
  refine lv_iadd hx hb dX11_sumNow_21 ?_
  refine q_top (y := 0) (by decide +kernel) ?_
  refine lv_istore_n (lv' := [(3, .int 0), (4, .int 11), (0, .ref h), (1, .int 10), (2, .int 5)]) hx hb dX11_sumNow_22 rfl hl (by decide) rfl (fun ls hl => ?_)
  refine lv_iinc (v := 12) (lv' := [(4, .int 12), (3, .int 0), (0, .ref h), (1, .int 10), (2, .int 5)]) hx hb dX11_sumNow_23 hl (k := 1) rfl (by decide +kernel) (by decide) rfl (fun ls hl => ?_)
  refine lv_goto (tgt := 5) hx hb dX11_sumNow_26 (by decide) ?_
  refine lv_iload hx hb dX11_sumNow_5 (lv_at hl 0 rfl) ?_
  refine lv_iload_n hx hb dX11_sumNow_7 rfl (lv_at hl 3 rfl) ?_
  refine lv_iload_n hx hb dX11_sumNow_8 rfl (lv_at hl 4 rfl) ?_
  refine lv_iadd hx hb dX11_sumNow_9 ?_
  refine q_top (y := 15) (by decide +kernel) ?_
  refine lv_icmp_ge (tgt := 29) hx hb dX11_sumNow_10 (by decide) (fun h => absurd h (by decide +kernel)) (fun _ => ?_)
  refine lv_iload_n hx hb dX11_sumNow_13 rfl (lv_at hl 1 rfl) ?_
  refine lv_aload_n hx hb dX11_sumNow_14 rfl (lv_at hl 2 rfl) ?_
  refine q_get (v := .ref (a 43)) C inX11 hK hP 0 rfl rfl 43 (by decide) rfl L98 rfl dX11_sumNow_15 ?_
  refine lv_iload hx hb dX11_sumNow_18 (lv_at hl 0 rfl) ?_
  refine q_iald (x := 0) C hK hP 27 1 rfl rfl (vp_lit (by decide +kernel)) dX11_sumNow_20 (hf43_12) ?_
  refine lv_iadd hx hb dX11_sumNow_21 ?_
  refine q_top (y := 0) (by decide +kernel) ?_
  refine lv_istore_n (lv' := [(3, .int 0), (4, .int 12), (0, .ref h), (1, .int 10), (2, .int 5)]) hx hb dX11_sumNow_22 rfl hl (by decide) rfl (fun ls hl => ?_)
  refine lv_iinc (v := 13) (lv' := [(4, .int 13), (3, .int 0), (0, .ref h), (1, .int 10), (2, .int 5)]) hx hb dX11_sumNow_23 hl (k := 1) rfl (by decide +kernel) (by decide) rfl (fun ls hl => ?_)
  refine lv_goto (tgt := 5) hx hb dX11_sumNow_26 (by decide) ?_
  refine lv_iload hx hb dX11_sumNow_5 (lv_at hl 0 rfl) ?_
  refine lv_iload_n hx hb dX11_sumNow_7 rfl (lv_at hl 3 rfl) ?_
  refine lv_iload_n hx hb dX11_sumNow_8 rfl (lv_at hl 4 rfl) ?_
  refine lv_iadd hx hb dX11_sumNow_9 ?_
  refine q_top (y := 15) (by decide +kernel) ?_
  refine lv_icmp_ge (tgt := 29) hx hb dX11_sumNow_10 (by decide) (fun h => absurd h (by decide +kernel)) (fun _ => ?_)
  refine lv_iload_n hx hb dX11_sumNow_13 rfl (lv_at hl 1 rfl) ?_
  refine lv_aload_n hx hb dX11_sumNow_14 rfl (lv_at hl 2 rfl) ?_
  refine q_get (v := .ref (a 43)) C inX11 hK hP 0 rfl rfl 43 (by decide) rfl L98 rfl dX11_sumNow_15 ?_
  refine lv_iload hx hb dX11_sumNow_18 (lv_at hl 0 rfl) ?_
  refine q_iald (x := 0) C hK hP 27 1 rfl rfl (vp_lit (by decide +kernel)) dX11_sumNow_20 (hf43_13) ?_
  refine lv_iadd hx hb dX11_sumNow_21 ?_
  refine q_top (y := 0) (by decide +kernel) ?_
  refine lv_istore_n (lv' := [(3, .int 0), (4, .int 13), (0, .ref h), (1, .int 10), (2, .int 5)]) hx hb dX11_sumNow_22 rfl hl (by decide) rfl (fun ls hl => ?_)
  refine lv_iinc (v := 14) (lv' := [(4, .int 14), (3, .int 0), (0, .ref h), (1, .int 10), (2, .int 5)]) hx hb dX11_sumNow_23 hl (k := 1) rfl (by decide +kernel) (by decide) rfl (fun ls hl => ?_)
  refine lv_goto (tgt := 5) hx hb dX11_sumNow_26 (by decide) ?_
  refine lv_iload hx hb dX11_sumNow_5 (lv_at hl 0 rfl) ?_
  refine lv_iload_n hx hb dX11_sumNow_7 rfl (lv_at hl 3 rfl) ?_
  refine lv_iload_n hx hb dX11_sumNow_8 rfl (lv_at hl 4 rfl) ?_
  refine lv_iadd hx hb dX11_sumNow_9 ?_
  refine q_top (y := 15) (by decide +kernel) ?_
  refine lv_icmp_ge (tgt := 29) hx hb dX11_sumNow_10 (by decide) (fun h => absurd h (by decide +kernel)) (fun _ => ?_)
  refine lv_iload_n hx hb dX11_sumNow_13 rfl (lv_at hl 1 rfl) ?_
  refine lv_aload_n hx hb dX11_sumNow_14 rfl (lv_at hl 2 rfl) ?_
  refine q_get (v := .ref (a 43)) C inX11 hK hP 0 rfl rfl 43 (by decide) rfl L98 rfl dX11_sumNow_15 ?_
  refine lv_iload hx hb dX11_sumNow_18 (lv_at hl 0 rfl) ?_
  refine q_iald (x := 0) C hK hP 27 1 rfl rfl (vp_lit (by decide +kernel)) dX11_sumNow_20 (hf43_14) ?_
  refine lv_iadd hx hb dX11_sumNow_21 ?_
  refine q_top (y := 0) (by decide +kernel) ?_
  refine lv_istore_n (lv' := [(3, .int 0), (4, .int 14), (0, .ref h), (1, .int 10), (2, .int 5)]) hx hb dX11_sumNow_22 rfl hl (by decide) rfl (fun ls hl => ?_)
  refine lv_iinc (v := 15) (lv' := [(4, .int 15), (3, .int 0), (0, .ref h), (1, .int 10), (2, .int 5)]) hx hb dX11_sumNow_23 hl (k := 1) rfl (by decide +kernel) (by decide) rfl (fun ls hl => ?_)
  refine lv_goto (tgt := 5) hx hb dX11_sumNow_26 (by decide) ?_
  refine lv_iload hx hb dX11_sumNow_5 (lv_at hl 0 rfl) ?_
  refine lv_iload_n hx hb dX11_sumNow_7 rfl (lv_at hl 3 rfl) ?_
  refine lv_iload_n hx hb dX11_sumNow_8 rfl (lv_at hl 4 rfl) ?_
  refine lv_iadd hx hb dX11_sumNow_9 ?_
  refine q_top (y := 15) (by decide +kernel) ?_
  refine lv_icmp_ge (tgt := 29) hx hb dX11_sumNow_10 (by decide) (fun _ => ?_) (fun h => absurd (by decide +kernel) h)
  refine lv_iload_n hx hb dX11_sumNow_29 rfl (lv_at hl 1 rfl) ?_
  exact q_iret C hr hlocks hK hP hD hS (Nat.le_of_ble_eq_true rfl) (Nat.le_of_ble_eq_true rfl) dX11_sumNow_30 (⟨rfl, rfl⟩)

set_option maxHeartbeats 4000000 in
set_option maxRecDepth 100000 in
theorem c_count (l : Launch) (dC : Nat → ClassId) (dI : Nat → Nat → Nat) (cB cI cJ cZ cS : ClassId) (h : Nat) (a : Nat → Nat) (v : Nat → Int32) (f : Nat → Nat → Int32) (g : Nat → Nat → Int64) (hv18 : v 18 = 0) (hf26_0 : f 26 0 = 0) (hv45 : v 45 = 0) (hf20_0 : f 20 0 = 0) (hf23_0 : f 23 0 = 0) (hf44_0 : f 44 0 = 0) (hf44_1 : f 44 1 = 0) (hf44_2 : f 44 2 = 0) (hf44_3 : f 44 3 = 0) (hf44_4 : f 44 4 = 0) (hf43_10 : f 43 10 = 0) (hf43_11 : f 43 11 = 0) (hf43_12 : f 43 12 = 0) (hf43_13 : f 43 13 = 0) (hf43_14 : f 43 14 = 0) (hf44_27 : f 44 27 = 0) (hf44_28 : f 44 28 = 0) (hf43_21 : f 43 21 = 0) (hf43_22 : f 43 22 = 0) (hf43_23 : f 43 23 = 0) (hf43_24 : f 43 24 = 0) (hf43_25 : f 43 25 = 0) (hf43_26 : f 43 26 = 0) (hv2 : v 2 = 0) (hv48 : v 48 = 0) (hv51 : v 51 = 0) (hf56_0 : f 56 0 = 0) (hf56_1 : f 56 1 = 0) (hf56_2 : f 56 2 = 0) (hf46_0 : f 46 0 = 1) (x1 : Int32) (hrow : ∀ j, j < 29 → f 44 j = f 43 j) : CI l yX11_count wsX11_count ({ frames := 1, cells := 0, slots := 0, locals := 24 }) (dC, dI) (tysA cB cI cJ cZ cS) (mw cB cI cJ cZ h a v f g) [.ref h, .int x1] (fun r _ => r = (fr_count x1)) := by
  refine open_I (cc := cX11_count) (maxL := 4) (ret := (some .int)) (by decide) rfl (Nat.le_of_ble_eq_true rfl) ?_
  intro p e s m below meth c A ls E
  obtain ⟨C, hr, hlocks, hnm, hA, hP, hK, hD, hN, hl⟩ := E
  obtain ⟨hx, hb, hml, hown, hts⟩ := id C
  have hS : va_S A s.heap s.heap [] := va_S.rf
  have hl : lv_has ls 4 [(0, .ref h), (1, .int x1)] := hl
  have inX11 : ∀ w ∈ u_ws RX11 TX11 58, w ∈ wsX11_count := by decide +kernel
  have L101 : Cond.fieldLink RX11 101 "GuessFerryModel" "row" "[I" ∈ wsX11_count := by decide +kernel
  have L128 : Cond.fieldLink RX11 128 "GuessFerryModel" "isHeld" "[Z" ∈ wsX11_count := by decide +kernel
  have L148 : Cond.fieldLink RX11 148 "GuessFerryModel" "taped" "I" ∈ wsX11_count := by decide +kernel
  have L215 : Cond.fieldLink RX11 215 "GuessFerryModel" "live" "I" ∈ wsX11_count := by decide +kernel
  have L230 : Cond.fieldLink RX11 230 "GuessFerryModel" "undos" "I" ∈ wsX11_count := by decide +kernel
  have L233 : Cond.fieldLink RX11 233 "GuessFerryModel" "tolds" "I" ∈ wsX11_count := by decide +kernel
  have L40 : Cond.fieldLink RX11 40 "GuessFerryModel" "waves" "[I" ∈ wsX11_count := by decide +kernel
  have L49 : Cond.fieldLink RX11 49 "GuessFerryModel" "parties" "[I" ∈ wsX11_count := by decide +kernel
  refine lv_aload_n hx hb dX11_count_0 rfl (lv_at hl 0 rfl) ?_
  refine q_govF (va_runV (As := []) (rest := []) C (c_copies l dC dI cB cI cJ cZ cS h a v f g hv18 hf26_0 hv45 (hrow) _) (cwV 0 hts gX11_count_X11_copies rfl rfl rfl (by decide +kernel) ⟨Nat.le_of_ble_eq_true rfl, Nat.le_of_ble_eq_true rfl⟩) (q_preV hK hP (ci := 11) (q0 := 0) rfl rfl rfl (q_preF hN hK hP hD)) rfl rfl hl.1 rfl (lv_room (Nat.le_of_ble_eq_true rfl)) dX11_count_1 ⟨Nat.le_of_ble_eq_true rfl, Nat.le_of_ble_eq_true rfl⟩) hD hS hA (fun w1 H locs hw hP hD hS => ?_)
  obtain rfl := hw
  refine lv_iconst (v := 0) hx hb dX11_count_4 (by decide) ?_
  refine lv_istore_n (lv' := [(2, .int 0), (0, .ref h), (1, .int x1)]) hx hb dX11_count_5 rfl hl (by decide) rfl (fun ls hl => ?_)
  refine lv_iload_n hx hb dX11_count_6 rfl (lv_at hl 2 rfl) ?_
  by_cases e1 : x1 = 0
  · refine q_top (y := 0) e1 ?_
    refine lv_tableIn (off := 89) (tgt := 96) hx hb dX11_count_7 (by decide +kernel) (by decide +kernel) (by decide +kernel) (by decide) ?_
    refine lv_aload_n hx hb dX11_count_96 rfl (lv_at hl 1 rfl) ?_
    refine q_get (v := .ref (a 20)) C inX11 hK hP 0 rfl rfl 20 (by decide) rfl L40 rfl dX11_count_97 ?_
    refine lv_aload_n hx hb dX11_count_100 rfl (lv_at hl 1 rfl) ?_
    refine q_get (v := .int (v 18)) C inX11 hK hP 0 rfl rfl 18 (by decide) rfl L215 rfl dX11_count_101 ?_
    refine q_top (y := 0) (hv18) ?_
    refine q_iald (x := 0) C hK hP 8 1 rfl rfl (vp_lit (by decide +kernel)) dX11_count_104 (hf20_0) ?_
    exact q_iret C hr hlocks hK hP hD hS (Nat.le_of_ble_eq_true rfl) (Nat.le_of_ble_eq_true rfl) dX11_count_105 (by rw [e1]; decide +kernel)
  · skip
    by_cases e2 : x1 = 1
    · refine q_top (y := 1) e2 ?_
      refine lv_tableIn (off := 99) (tgt := 106) hx hb dX11_count_7 (by decide +kernel) (by decide +kernel) (by decide +kernel) (by decide) ?_
      refine lv_aload_n hx hb dX11_count_106 rfl (lv_at hl 1 rfl) ?_
      refine q_get (v := .ref (a 23)) C inX11 hK hP 0 rfl rfl 23 (by decide) rfl L49 rfl dX11_count_107 ?_
      refine lv_aload_n hx hb dX11_count_110 rfl (lv_at hl 1 rfl) ?_
      refine q_get (v := .int (v 18)) C inX11 hK hP 0 rfl rfl 18 (by decide) rfl L215 rfl dX11_count_111 ?_
      refine q_top (y := 0) (hv18) ?_
      refine q_iald (x := 0) C hK hP 11 1 rfl rfl (vp_lit (by decide +kernel)) dX11_count_114 (hf23_0) ?_
      exact q_iret C hr hlocks hK hP hD hS (Nat.le_of_ble_eq_true rfl) (Nat.le_of_ble_eq_true rfl) dX11_count_115 (by rw [e2]; decide +kernel)
    · skip
      by_cases e3 : x1 = 2
      · refine q_top (y := 2) e3 ?_
        refine lv_tableIn (off := 109) (tgt := 116) hx hb dX11_count_7 (by decide +kernel) (by decide +kernel) (by decide +kernel) (by decide) ?_
        refine lv_aload_n hx hb dX11_count_116 rfl (lv_at hl 1 rfl) ?_
        refine q_get (v := .ref (a 44)) C inX11 hK hP 0 rfl rfl 44 (by decide) rfl L101 rfl dX11_count_117 ?_
        refine lv_bipush (v := 27) hx hb dX11_count_120 (by decide) ?_
        refine q_iald (x := 0) C hK hP 28 1 rfl rfl (vp_lit (by decide +kernel)) dX11_count_122 (hf44_27) ?_
        exact q_iret C hr hlocks hK hP hD hS (Nat.le_of_ble_eq_true rfl) (Nat.le_of_ble_eq_true rfl) dX11_count_123 (by rw [e3]; decide +kernel)
      · skip
        by_cases e4 : x1 = 3
        · refine q_top (y := 3) e4 ?_
          refine lv_tableIn (off := 117) (tgt := 124) hx hb dX11_count_7 (by decide +kernel) (by decide +kernel) (by decide +kernel) (by decide) ?_
          refine lv_aload_n hx hb dX11_count_124 rfl (lv_at hl 1 rfl) ?_
          refine q_get (v := .ref (a 44)) C inX11 hK hP 0 rfl rfl 44 (by decide) rfl L101 rfl dX11_count_125 ?_
          refine lv_bipush (v := 28) hx hb dX11_count_128 (by decide) ?_
          refine q_iald (x := 0) C hK hP 28 1 rfl rfl (vp_lit (by decide +kernel)) dX11_count_130 (hf44_28) ?_
          exact q_iret C hr hlocks hK hP hD hS (Nat.le_of_ble_eq_true rfl) (Nat.le_of_ble_eq_true rfl) dX11_count_131 (by rw [e4]; decide +kernel)
        · skip
          by_cases e5 : x1 = 4
          · refine q_top (y := 4) e5 ?_
            refine lv_tableIn (off := 125) (tgt := 132) hx hb dX11_count_7 (by decide +kernel) (by decide +kernel) (by decide +kernel) (by decide) ?_
            refine lv_aload_n hx hb dX11_count_132 rfl (lv_at hl 1 rfl) ?_
            refine lv_iconst (v := 0) hx hb dX11_count_133 (by decide) ?_
            refine q_goiF (va_runV (As := [.int 0]) (rest := []) C (c_partiesIn l dC dI cB cI cJ cZ cS h a v f g hv18 hf23_0 0 _) (cwV 1 hts gX11_count_X11_partiesIn rfl rfl rfl (by decide +kernel) ⟨Nat.le_of_ble_eq_true rfl, Nat.le_of_ble_eq_true rfl⟩) (q_preV hK hP (ci := 11) (q0 := 0) rfl rfl rfl (q_preF hN hK hP hD)) rfl rfl hl.1 rfl (lv_room (Nat.le_of_ble_eq_true rfl)) dX11_count_134 ⟨Nat.le_of_ble_eq_true rfl, Nat.le_of_ble_eq_true rfl⟩) hD hS hA (fun r w1 H locs hw hP hD hS => ?_)
            obtain ⟨rfl, rfl⟩ := hw
            exact q_iret C hr hlocks hK hP hD hS (Nat.le_of_ble_eq_true rfl) (Nat.le_of_ble_eq_true rfl) dX11_count_137 (by rw [e5]; decide +kernel)
          · skip
            by_cases e6 : x1 = 5
            · refine q_top (y := 5) e6 ?_
              refine lv_tableIn (off := 131) (tgt := 138) hx hb dX11_count_7 (by decide +kernel) (by decide +kernel) (by decide +kernel) (by decide) ?_
              refine lv_aload_n hx hb dX11_count_138 rfl (lv_at hl 1 rfl) ?_
              refine lv_iconst (v := 1) hx hb dX11_count_139 (by decide) ?_
              refine q_goiF (va_runV (As := [.int 1]) (rest := []) C (c_partiesIn l dC dI cB cI cJ cZ cS h a v f g hv18 hf23_0 1 _) (cwV 1 hts gX11_count_X11_partiesIn rfl rfl rfl (by decide +kernel) ⟨Nat.le_of_ble_eq_true rfl, Nat.le_of_ble_eq_true rfl⟩) (q_preV hK hP (ci := 11) (q0 := 0) rfl rfl rfl (q_preF hN hK hP hD)) rfl rfl hl.1 rfl (lv_room (Nat.le_of_ble_eq_true rfl)) dX11_count_140 ⟨Nat.le_of_ble_eq_true rfl, Nat.le_of_ble_eq_true rfl⟩) hD hS hA (fun r w1 H locs hw hP hD hS => ?_)
              obtain ⟨rfl, rfl⟩ := hw
              exact q_iret C hr hlocks hK hP hD hS (Nat.le_of_ble_eq_true rfl) (Nat.le_of_ble_eq_true rfl) dX11_count_143 (by rw [e6]; decide +kernel)
            · skip
              by_cases e7 : x1 = 6
              · refine q_top (y := 6) e7 ?_
                refine lv_tableIn (off := 137) (tgt := 144) hx hb dX11_count_7 (by decide +kernel) (by decide +kernel) (by decide +kernel) (by decide) ?_
                refine lv_aload_n hx hb dX11_count_144 rfl (lv_at hl 1 rfl) ?_
                refine lv_iconst (v := 2) hx hb dX11_count_145 (by decide) ?_
                refine q_goiF (va_runV (As := [.int 2]) (rest := []) C (c_partiesIn l dC dI cB cI cJ cZ cS h a v f g hv18 hf23_0 2 _) (cwV 1 hts gX11_count_X11_partiesIn rfl rfl rfl (by decide +kernel) ⟨Nat.le_of_ble_eq_true rfl, Nat.le_of_ble_eq_true rfl⟩) (q_preV hK hP (ci := 11) (q0 := 0) rfl rfl rfl (q_preF hN hK hP hD)) rfl rfl hl.1 rfl (lv_room (Nat.le_of_ble_eq_true rfl)) dX11_count_146 ⟨Nat.le_of_ble_eq_true rfl, Nat.le_of_ble_eq_true rfl⟩) hD hS hA (fun r w1 H locs hw hP hD hS => ?_)
                obtain ⟨rfl, rfl⟩ := hw
                exact q_iret C hr hlocks hK hP hD hS (Nat.le_of_ble_eq_true rfl) (Nat.le_of_ble_eq_true rfl) dX11_count_149 (by rw [e7]; decide +kernel)
              · skip
                by_cases e8 : x1 = 7
                · refine q_top (y := 7) e8 ?_
                  refine lv_tableIn (off := 143) (tgt := 150) hx hb dX11_count_7 (by decide +kernel) (by decide +kernel) (by decide +kernel) (by decide) ?_
                  refine lv_aload_n hx hb dX11_count_150 rfl (lv_at hl 1 rfl) ?_
                  refine lv_bipush (v := 21) hx hb dX11_count_151 (by decide) ?_
                  refine lv_bipush (v := 6) hx hb dX11_count_153 (by decide) ?_
                  refine q_goiF (va_runV (As := [.int 21, .int 6]) (rest := []) C (c_sumNow21 l dC dI cB cI cJ cZ cS h a v f g hf43_21 hf43_22 hf43_23 hf43_24 hf43_25 hf43_26 _) (cwV 2 hts gX11_count_X11_sumNow rfl rfl rfl (by decide +kernel) ⟨Nat.le_of_ble_eq_true rfl, Nat.le_of_ble_eq_true rfl⟩) (q_preV hK hP (ci := 11) (q0 := 0) rfl rfl rfl (q_preF hN hK hP hD)) rfl rfl hl.1 rfl (lv_room (Nat.le_of_ble_eq_true rfl)) dX11_count_155 ⟨Nat.le_of_ble_eq_true rfl, Nat.le_of_ble_eq_true rfl⟩) hD hS hA (fun r w1 H locs hw hP hD hS => ?_)
                  obtain ⟨rfl, rfl⟩ := hw
                  exact q_iret C hr hlocks hK hP hD hS (Nat.le_of_ble_eq_true rfl) (Nat.le_of_ble_eq_true rfl) dX11_count_158 (by rw [e8]; decide +kernel)
                · skip
                  by_cases e9 : x1 = 8
                  · refine q_top (y := 8) e9 ?_
                    refine lv_tableIn (off := 152) (tgt := 159) hx hb dX11_count_7 (by decide +kernel) (by decide +kernel) (by decide +kernel) (by decide) ?_
                    refine lv_aload_n hx hb dX11_count_159 rfl (lv_at hl 1 rfl) ?_
                    refine q_get (v := .int (v 2)) C inX11 hK hP 0 rfl rfl 2 (by decide) rfl L148 rfl dX11_count_160 ?_
                    refine q_top (y := 0) (hv2) ?_
                    exact q_iret C hr hlocks hK hP hD hS (Nat.le_of_ble_eq_true rfl) (Nat.le_of_ble_eq_true rfl) dX11_count_163 (by rw [e9]; decide +kernel)
                  · skip
                    by_cases e10 : x1 = 9
                    · refine q_top (y := 9) e10 ?_
                      refine lv_tableIn (off := 157) (tgt := 164) hx hb dX11_count_7 (by decide +kernel) (by decide +kernel) (by decide +kernel) (by decide) ?_
                      refine lv_aload_n hx hb dX11_count_164 rfl (lv_at hl 1 rfl) ?_
                      refine q_get (v := .int (v 48)) C inX11 hK hP 0 rfl rfl 48 (by decide) rfl L230 rfl dX11_count_165 ?_
                      refine q_top (y := 0) (hv48) ?_
                      exact q_iret C hr hlocks hK hP hD hS (Nat.le_of_ble_eq_true rfl) (Nat.le_of_ble_eq_true rfl) dX11_count_168 (by rw [e10]; decide +kernel)
                    · skip
                      by_cases e11 : x1 = 10
                      · refine q_top (y := 10) e11 ?_
                        refine lv_tableIn (off := 162) (tgt := 169) hx hb dX11_count_7 (by decide +kernel) (by decide +kernel) (by decide +kernel) (by decide) ?_
                        refine lv_aload_n hx hb dX11_count_169 rfl (lv_at hl 1 rfl) ?_
                        refine q_get (v := .int (v 51)) C inX11 hK hP 0 rfl rfl 51 (by decide) rfl L233 rfl dX11_count_170 ?_
                        refine q_top (y := 0) (hv51) ?_
                        exact q_iret C hr hlocks hK hP hD hS (Nat.le_of_ble_eq_true rfl) (Nat.le_of_ble_eq_true rfl) dX11_count_173 (by rw [e11]; decide +kernel)
                      · skip
                        by_cases e12 : x1 = 11
                        · refine q_top (y := 11) e12 ?_
                          refine lv_tableIn (off := 167) (tgt := 174) hx hb dX11_count_7 (by decide +kernel) (by decide +kernel) (by decide +kernel) (by decide) ?_
                          refine lv_aload_n hx hb dX11_count_174 rfl (lv_at hl 1 rfl) ?_
                          refine q_get (v := .ref (a 56)) C inX11 hK hP 0 rfl rfl 56 (by decide) rfl L128 rfl dX11_count_175 ?_
                          refine lv_iconst (v := 0) hx hb dX11_count_178 (by decide) ?_
                          refine q_zald (x := 0) C hK hP 37 3 rfl rfl (vp_lit (by decide +kernel)) dX11_count_179 (hf56_0) ?_
                          refine lv_if_eq (tgt := 187) hx hb dX11_count_180 (by decide) (fun _ => ?_) (fun h => absurd (by decide +kernel) h)
                          refine lv_iconst (v := 0) hx hb dX11_count_187 (by decide) ?_
                          refine lv_aload_n hx hb dX11_count_188 rfl (lv_at hl 1 rfl) ?_
                          refine q_get (v := .ref (a 56)) C inX11 hK hP 0 rfl rfl 56 (by decide) rfl L128 rfl dX11_count_189 ?_
                          refine lv_iconst (v := 1) hx hb dX11_count_192 (by decide) ?_
                          refine q_zald (x := 0) C hK hP 37 3 rfl rfl (vp_lit (by decide +kernel)) dX11_count_193 (hf56_1) ?_
                          refine lv_if_eq (tgt := 201) hx hb dX11_count_194 (by decide) (fun _ => ?_) (fun h => absurd (by decide +kernel) h)
                          refine lv_iconst (v := 0) hx hb dX11_count_201 (by decide) ?_
                          refine lv_iadd hx hb dX11_count_202 ?_
                          refine q_top (y := 0) (by decide +kernel) ?_
                          refine lv_aload_n hx hb dX11_count_203 rfl (lv_at hl 1 rfl) ?_
                          refine q_get (v := .ref (a 56)) C inX11 hK hP 0 rfl rfl 56 (by decide) rfl L128 rfl dX11_count_204 ?_
                          refine lv_iconst (v := 2) hx hb dX11_count_207 (by decide) ?_
                          refine q_zald (x := 0) C hK hP 37 3 rfl rfl (vp_lit (by decide +kernel)) dX11_count_208 (hf56_2) ?_
                          refine lv_if_eq (tgt := 216) hx hb dX11_count_209 (by decide) (fun _ => ?_) (fun h => absurd (by decide +kernel) h)
                          refine lv_iconst (v := 0) hx hb dX11_count_216 (by decide) ?_
                          refine lv_iadd hx hb dX11_count_217 ?_
                          refine q_top (y := 0) (by decide +kernel) ?_
                          exact q_iret C hr hlocks hK hP hD hS (Nat.le_of_ble_eq_true rfl) (Nat.le_of_ble_eq_true rfl) dX11_count_218 (by rw [e12]; decide +kernel)
                        · skip
                          by_cases e13 : x1 = 12
                          · refine q_top (y := 12) e13 ?_
                            refine lv_tableIn (off := 212) (tgt := 219) hx hb dX11_count_7 (by decide +kernel) (by decide +kernel) (by decide +kernel) (by decide) ?_
                            refine lv_aload_n hx hb dX11_count_219 rfl (lv_at hl 1 rfl) ?_
                            refine q_get (v := .ref (a 44)) C inX11 hK hP 0 rfl rfl 44 (by decide) rfl L101 rfl dX11_count_220 ?_
                            refine lv_iconst (v := 0) hx hb dX11_count_223 (by decide) ?_
                            refine q_iald (x := 0) C hK hP 28 1 rfl rfl (vp_lit (by decide +kernel)) dX11_count_224 (hf44_0) ?_
                            refine q_goi0 (va_runS (As := [.int 0]) (rest := []) C (c_bits l dC dI cB cI cJ cZ cS _) (va_cwS 1 hts gX11_count_X11_bits rfl rfl rfl (by decide +kernel) ⟨Nat.le_of_ble_eq_true rfl, Nat.le_of_ble_eq_true rfl⟩) (q_pre0 hN hK) rfl rfl hl.1 rfl (lv_room (Nat.le_of_ble_eq_true rfl)) dX11_count_225 ⟨Nat.le_of_ble_eq_true rfl, Nat.le_of_ble_eq_true rfl⟩) hP hD hS hA (fun r w1 H locs hw hP hS => ?_)
                            obtain rfl := hw
                            refine lv_aload_n hx hb dX11_count_228 rfl (lv_at hl 1 rfl) ?_
                            refine q_get (v := .ref (a 44)) C inX11 hK hP 0 rfl rfl 44 (by decide) rfl L101 rfl dX11_count_229 ?_
                            refine lv_iconst (v := 1) hx hb dX11_count_232 (by decide) ?_
                            refine q_iald (x := 0) C hK hP 28 1 rfl rfl (vp_lit (by decide +kernel)) dX11_count_233 (hf44_1) ?_
                            refine q_goi0 (va_runS (As := [.int 0]) (rest := [.int 0]) C (c_bits l dC dI cB cI cJ cZ cS _) (va_cwS 1 hts gX11_count_X11_bits rfl rfl rfl (by decide +kernel) ⟨Nat.le_of_ble_eq_true rfl, Nat.le_of_ble_eq_true rfl⟩) (q_pre0 hN hK) rfl rfl hl.1 rfl (lv_room (Nat.le_of_ble_eq_true rfl)) dX11_count_234 ⟨Nat.le_of_ble_eq_true rfl, Nat.le_of_ble_eq_true rfl⟩) hP hD hS hA (fun r w1 H locs hw hP hS => ?_)
                            obtain rfl := hw
                            refine lv_iadd hx hb dX11_count_237 ?_
                            refine q_top (y := 0) (by decide +kernel) ?_
                            refine lv_aload_n hx hb dX11_count_238 rfl (lv_at hl 1 rfl) ?_
                            refine q_get (v := .ref (a 44)) C inX11 hK hP 0 rfl rfl 44 (by decide) rfl L101 rfl dX11_count_239 ?_
                            refine lv_iconst (v := 2) hx hb dX11_count_242 (by decide) ?_
                            refine q_iald (x := 0) C hK hP 28 1 rfl rfl (vp_lit (by decide +kernel)) dX11_count_243 (hf44_2) ?_
                            refine q_goi0 (va_runS (As := [.int 0]) (rest := [.int 0]) C (c_bits l dC dI cB cI cJ cZ cS _) (va_cwS 1 hts gX11_count_X11_bits rfl rfl rfl (by decide +kernel) ⟨Nat.le_of_ble_eq_true rfl, Nat.le_of_ble_eq_true rfl⟩) (q_pre0 hN hK) rfl rfl hl.1 rfl (lv_room (Nat.le_of_ble_eq_true rfl)) dX11_count_244 ⟨Nat.le_of_ble_eq_true rfl, Nat.le_of_ble_eq_true rfl⟩) hP hD hS hA (fun r w1 H locs hw hP hS => ?_)
                            obtain rfl := hw
                            refine lv_iadd hx hb dX11_count_247 ?_
                            refine q_top (y := 0) (by decide +kernel) ?_
                            refine lv_aload_n hx hb dX11_count_248 rfl (lv_at hl 1 rfl) ?_
                            refine q_get (v := .ref (a 44)) C inX11 hK hP 0 rfl rfl 44 (by decide) rfl L101 rfl dX11_count_249 ?_
                            refine lv_iconst (v := 3) hx hb dX11_count_252 (by decide) ?_
                            refine q_iald (x := 0) C hK hP 28 1 rfl rfl (vp_lit (by decide +kernel)) dX11_count_253 (hf44_3) ?_
                            refine q_goi0 (va_runS (As := [.int 0]) (rest := [.int 0]) C (c_bits l dC dI cB cI cJ cZ cS _) (va_cwS 1 hts gX11_count_X11_bits rfl rfl rfl (by decide +kernel) ⟨Nat.le_of_ble_eq_true rfl, Nat.le_of_ble_eq_true rfl⟩) (q_pre0 hN hK) rfl rfl hl.1 rfl (lv_room (Nat.le_of_ble_eq_true rfl)) dX11_count_254 ⟨Nat.le_of_ble_eq_true rfl, Nat.le_of_ble_eq_true rfl⟩) hP hD hS hA (fun r w1 H locs hw hP hS => ?_)
                            obtain rfl := hw
                            refine lv_iadd hx hb dX11_count_257 ?_
                            refine q_top (y := 0) (by decide +kernel) ?_
                            refine lv_aload_n hx hb dX11_count_258 rfl (lv_at hl 1 rfl) ?_
                            refine q_get (v := .ref (a 44)) C inX11 hK hP 0 rfl rfl 44 (by decide) rfl L101 rfl dX11_count_259 ?_
                            refine lv_iconst (v := 4) hx hb dX11_count_262 (by decide) ?_
                            refine q_iald (x := 0) C hK hP 28 1 rfl rfl (vp_lit (by decide +kernel)) dX11_count_263 (hf44_4) ?_
                            refine q_goi0 (va_runS (As := [.int 0]) (rest := [.int 0]) C (c_bits l dC dI cB cI cJ cZ cS _) (va_cwS 1 hts gX11_count_X11_bits rfl rfl rfl (by decide +kernel) ⟨Nat.le_of_ble_eq_true rfl, Nat.le_of_ble_eq_true rfl⟩) (q_pre0 hN hK) rfl rfl hl.1 rfl (lv_room (Nat.le_of_ble_eq_true rfl)) dX11_count_264 ⟨Nat.le_of_ble_eq_true rfl, Nat.le_of_ble_eq_true rfl⟩) hP hD hS hA (fun r w1 H locs hw hP hS => ?_)
                            obtain rfl := hw
                            refine lv_iadd hx hb dX11_count_267 ?_
                            refine q_top (y := 0) (by decide +kernel) ?_
                            exact q_iret C hr hlocks hK hP hD hS (Nat.le_of_ble_eq_true rfl) (Nat.le_of_ble_eq_true rfl) dX11_count_268 (by rw [e13]; decide +kernel)
                          · skip
                            by_cases e14 : x1 = 13
                            · refine q_top (y := 13) e14 ?_
                              refine lv_tableIn (off := 262) (tgt := 269) hx hb dX11_count_7 (by decide +kernel) (by decide +kernel) (by decide +kernel) (by decide) ?_
                              refine lv_iconst (v := 0) hx hb dX11_count_269 (by decide) ?_
                              refine lv_istore_n (lv' := [(3, .int 0), (2, .int 0), (0, .ref h), (1, .int x1)]) hx hb dX11_count_270 rfl hl (by decide) rfl (fun ls hl => ?_)
                              refine lv_iload_n hx hb dX11_count_271 rfl (lv_at hl 0 rfl) ?_
                              refine lv_aload_n hx hb dX11_count_272 rfl (lv_at hl 2 rfl) ?_
                              refine q_get (v := .ref (a 20)) C inX11 hK hP 0 rfl rfl 20 (by decide) rfl L40 rfl dX11_count_273 ?_
                              refine lv_aload_n hx hb dX11_count_276 rfl (lv_at hl 2 rfl) ?_
                              refine q_get (v := .int (v 18)) C inX11 hK hP 0 rfl rfl 18 (by decide) rfl L215 rfl dX11_count_277 ?_
                              refine q_top (y := 0) (hv18) ?_
                              refine q_iald (x := 0) C hK hP 8 1 rfl rfl (vp_lit (by decide +kernel)) dX11_count_280 (hf20_0) ?_
                              refine lv_icmp_ge (tgt := 307) hx hb dX11_count_281 (by decide) (fun _ => ?_) (fun h => absurd (by decide +kernel) h)
                              refine lv_iload_n hx hb dX11_count_307 rfl (lv_at hl 1 rfl) ?_
                              exact q_iret C hr hlocks hK hP hD hS (Nat.le_of_ble_eq_true rfl) (Nat.le_of_ble_eq_true rfl) dX11_count_308 (by rw [e14]; decide +kernel)
                            · skip
                              by_cases e15 : x1 = 14
                              · refine q_top (y := 14) e15 ?_
                                refine lv_tableIn (off := 302) (tgt := 309) hx hb dX11_count_7 (by decide +kernel) (by decide +kernel) (by decide +kernel) (by decide) ?_
                                refine lv_aload_n hx hb dX11_count_309 rfl (lv_at hl 1 rfl) ?_
                                refine q_goiF (va_runV (As := []) (rest := []) C (c_guesses l dC dI cB cI cJ cZ cS h a v f g hv18 hf20_0 hf46_0 _) (cwV 0 hts gX11_count_X11_guesses rfl rfl rfl (by decide +kernel) ⟨Nat.le_of_ble_eq_true rfl, Nat.le_of_ble_eq_true rfl⟩) (q_preV hK hP (ci := 11) (q0 := 0) rfl rfl rfl (q_preF hN hK hP hD)) rfl rfl hl.1 rfl (lv_room (Nat.le_of_ble_eq_true rfl)) dX11_count_310 ⟨Nat.le_of_ble_eq_true rfl, Nat.le_of_ble_eq_true rfl⟩) hD hS hA (fun r w1 H locs hw hP hD hS => ?_)
                                obtain ⟨rfl, rfl⟩ := hw
                                exact q_iret C hr hlocks hK hP hD hS (Nat.le_of_ble_eq_true rfl) (Nat.le_of_ble_eq_true rfl) dX11_count_313 (by rw [e15]; decide +kernel)
                              · skip
                                by_cases e16 : x1 = 15
                                · refine q_top (y := 15) e16 ?_
                                  refine lv_tableIn (off := 307) (tgt := 314) hx hb dX11_count_7 (by decide +kernel) (by decide +kernel) (by decide +kernel) (by decide) ?_
                                  refine lv_aload_n hx hb dX11_count_314 rfl (lv_at hl 1 rfl) ?_
                                  refine q_goiF (va_runV (As := []) (rest := []) C (c_thereNumber l dC dI cB cI cJ cZ cS h a v f g hv18 hf20_0 _) (cwV 0 hts gX11_count_X11_thereNumber rfl rfl rfl (by decide +kernel) ⟨Nat.le_of_ble_eq_true rfl, Nat.le_of_ble_eq_true rfl⟩) (q_preV hK hP (ci := 11) (q0 := 0) rfl rfl rfl (q_preF hN hK hP hD)) rfl rfl hl.1 rfl (lv_room (Nat.le_of_ble_eq_true rfl)) dX11_count_315 ⟨Nat.le_of_ble_eq_true rfl, Nat.le_of_ble_eq_true rfl⟩) hD hS hA (fun r w1 H locs hw hP hD hS => ?_)
                                  obtain ⟨rfl, rfl⟩ := hw
                                  exact q_iret C hr hlocks hK hP hD hS (Nat.le_of_ble_eq_true rfl) (Nat.le_of_ble_eq_true rfl) dX11_count_318 (by rw [e16]; decide +kernel)
                                · skip
                                  by_cases e17 : x1 = 16
                                  · refine q_top (y := 16) e17 ?_
                                    refine lv_tableIn (off := 312) (tgt := 319) hx hb dX11_count_7 (by decide +kernel) (by decide +kernel) (by decide +kernel) (by decide) ?_
                                    refine lv_aload_n hx hb dX11_count_319 rfl (lv_at hl 1 rfl) ?_
                                    refine lv_bipush (v := 10) hx hb dX11_count_320 (by decide) ?_
                                    refine lv_iconst (v := 5) hx hb dX11_count_322 (by decide) ?_
                                    refine q_goiF (va_runV (As := [.int 10, .int 5]) (rest := []) C (c_sumNow10 l dC dI cB cI cJ cZ cS h a v f g hf43_10 hf43_11 hf43_12 hf43_13 hf43_14 _) (cwV 2 hts gX11_count_X11_sumNow rfl rfl rfl (by decide +kernel) ⟨Nat.le_of_ble_eq_true rfl, Nat.le_of_ble_eq_true rfl⟩) (q_preV hK hP (ci := 11) (q0 := 0) rfl rfl rfl (q_preF hN hK hP hD)) rfl rfl hl.1 rfl (lv_room (Nat.le_of_ble_eq_true rfl)) dX11_count_323 ⟨Nat.le_of_ble_eq_true rfl, Nat.le_of_ble_eq_true rfl⟩) hD hS hA (fun r w1 H locs hw hP hD hS => ?_)
                                    obtain ⟨rfl, rfl⟩ := hw
                                    exact q_iret C hr hlocks hK hP hD hS (Nat.le_of_ble_eq_true rfl) (Nat.le_of_ble_eq_true rfl) dX11_count_326 (by rw [e17]; decide +kernel)
                                  · skip
                                    by_cases e18 : x1 = 17
                                    · refine q_top (y := 17) e18 ?_
                                      refine lv_tableIn (off := 320) (tgt := 327) hx hb dX11_count_7 (by decide +kernel) (by decide +kernel) (by decide +kernel) (by decide) ?_
                                      refine lv_iconst (v := 0) hx hb dX11_count_327 (by decide) ?_
                                      refine lv_istore_n (lv' := [(3, .int 0), (2, .int 0), (0, .ref h), (1, .int x1)]) hx hb dX11_count_328 rfl hl (by decide) rfl (fun ls hl => ?_)
                                      refine lv_iload_n hx hb dX11_count_329 rfl (lv_at hl 0 rfl) ?_
                                      refine lv_aload_n hx hb dX11_count_330 rfl (lv_at hl 2 rfl) ?_
                                      refine q_get (v := .ref (a 20)) C inX11 hK hP 0 rfl rfl 20 (by decide) rfl L40 rfl dX11_count_331 ?_
                                      refine lv_aload_n hx hb dX11_count_334 rfl (lv_at hl 2 rfl) ?_
                                      refine q_get (v := .int (v 18)) C inX11 hK hP 0 rfl rfl 18 (by decide) rfl L215 rfl dX11_count_335 ?_
                                      refine q_top (y := 0) (hv18) ?_
                                      refine q_iald (x := 0) C hK hP 8 1 rfl rfl (vp_lit (by decide +kernel)) dX11_count_338 (hf20_0) ?_
                                      refine lv_icmp_ge (tgt := 362) hx hb dX11_count_339 (by decide) (fun _ => ?_) (fun h => absurd (by decide +kernel) h)
                                      refine lv_iload_n hx hb dX11_count_362 rfl (lv_at hl 1 rfl) ?_
                                      exact q_iret C hr hlocks hK hP hD hS (Nat.le_of_ble_eq_true rfl) (Nat.le_of_ble_eq_true rfl) dX11_count_363 (by rw [e18]; decide +kernel)
                                    · skip
                                      by_cases e19 : x1 = 18
                                      · refine q_top (y := 18) e19 ?_
                                        refine lv_tableIn (off := 357) (tgt := 364) hx hb dX11_count_7 (by decide +kernel) (by decide +kernel) (by decide +kernel) (by decide) ?_
                                        refine lv_iconst (v := 0) hx hb dX11_count_364 (by decide) ?_
                                        refine lv_istore_n (lv' := [(3, .int 0), (2, .int 0), (0, .ref h), (1, .int x1)]) hx hb dX11_count_365 rfl hl (by decide) rfl (fun ls hl => ?_)
                                        refine lv_iload_n hx hb dX11_count_366 rfl (lv_at hl 0 rfl) ?_
                                        refine lv_aload_n hx hb dX11_count_367 rfl (lv_at hl 2 rfl) ?_
                                        refine q_get (v := .ref (a 23)) C inX11 hK hP 0 rfl rfl 23 (by decide) rfl L49 rfl dX11_count_368 ?_
                                        refine lv_aload_n hx hb dX11_count_371 rfl (lv_at hl 2 rfl) ?_
                                        refine q_get (v := .int (v 18)) C inX11 hK hP 0 rfl rfl 18 (by decide) rfl L215 rfl dX11_count_372 ?_
                                        refine q_top (y := 0) (hv18) ?_
                                        refine q_iald (x := 0) C hK hP 11 1 rfl rfl (vp_lit (by decide +kernel)) dX11_count_375 (hf23_0) ?_
                                        refine lv_icmp_ge (tgt := 401) hx hb dX11_count_376 (by decide) (fun _ => ?_) (fun h => absurd (by decide +kernel) h)
                                        refine lv_iload_n hx hb dX11_count_401 rfl (lv_at hl 1 rfl) ?_
                                        exact q_iret C hr hlocks hK hP hD hS (Nat.le_of_ble_eq_true rfl) (Nat.le_of_ble_eq_true rfl) dX11_count_402 (by rw [e19]; decide +kernel)
                                      · skip
                                        refine lv_tableOut (tgt := 403) hx hb dX11_count_7 (out_19 e1 e2 e3 e4 e5 e6 e7 e8 e9 e10 e11 e12 e13 e14 e15 e16 e17 e18 e19) (by decide) ?_
                                        refine lv_iconst (v := (-1)) hx hb dX11_count_403 (by decide) ?_
                                        exact q_iret C hr hlocks hK hP hD hS (Nat.le_of_ble_eq_true rfl) (Nat.le_of_ble_eq_true rfl) dX11_count_404 (fr_count_out (out_19 e1 e2 e3 e4 e5 e6 e7 e8 e9 e10 e11 e12 e13 e14 e15 e16 e17 e18 e19))
