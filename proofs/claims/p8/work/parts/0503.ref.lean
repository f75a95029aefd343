theorem ggX11_tellOne_X11_roomFor : GoodIn wsX11_tellOne wsX11_roomFor := gi_sub (fun w h => List.mem_cons_of_mem _ (List.mem_append_left _ (List.mem_append_right _ (List.mem_append_left _ h)))) gd_wsX11_roomFor
set_option maxRecDepth 20000 in
theorem gX11_tellOne_X11_roomFor : GoodIn wsX11_tellOne (wsV RX11 236 RX11 yX11_roomFor wsX11_roomFor) := goodIn_app (goodIn_r _ [8, 9, 10, 11] (by decide +kernel) (by decide +kernel)) ggX11_tellOne_X11_roomFor
theorem ggX11_tellOne_X11_tellWave : GoodIn wsX11_tellOne wsX11_tellWave := gi_sub (fun w h => List.mem_cons_of_mem _ (List.mem_append_left _ (List.mem_append_right _ (List.mem_append_right _ (List.mem_append_left _ h))))) gd_wsX11_tellWave
set_option maxRecDepth 20000 in
theorem gX11_tellOne_X11_tellWave : GoodIn wsX11_tellOne (wsV RX11 240 RX11 yX11_tellWave wsX11_tellWave) := goodIn_app (goodIn_r _ [18, 19, 20, 11] (by decide +kernel) (by decide +kernel)) ggX11_tellOne_X11_tellWave
theorem ggX11_tellOne_X11_tellParty : GoodIn wsX11_tellOne wsX11_tellParty := gi_sub (fun w h => List.mem_cons_of_mem _ (List.mem_append_left _ (List.mem_append_right _ (List.mem_append_right _ (List.mem_append_right _ (List.mem_append_left _ h)))))) gd_wsX11_tellParty
set_option maxRecDepth 20000 in
theorem gX11_tellOne_X11_tellParty : GoodIn wsX11_tellOne (wsV RX11 243 RX11 yX11_tellParty wsX11_tellParty) := goodIn_app (goodIn_r _ [27, 28, 29, 11] (by decide +kernel) (by decide +kernel)) ggX11_tellOne_X11_tellParty
theorem ggX11_tellOne_X11_goesOn : GoodIn wsX11_tellOne wsX11_goesOn := gi_sub (fun w h => List.mem_cons_of_mem _ (List.mem_append_left _ (List.mem_append_right _ (List.mem_append_right _ (List.mem_append_right _ (List.mem_append_right _ (List.mem_append_left _ h))))))) gd_wsX11_goesOn
set_option maxRecDepth 20000 in
theorem gX11_tellOne_X11_goesOn : GoodIn wsX11_tellOne (wsV RX11 206 RX11 yX11_goesOn wsX11_goesOn) := goodIn_app (goodIn_r _ [15, 16, 17, 11] (by decide +kernel) (by decide +kernel)) ggX11_tellOne_X11_goesOn
theorem ggX11_tellOne_X11_bounded : GoodIn wsX11_tellOne wsX11_bounded := gi_sub (fun w h => List.mem_cons_of_mem _ (List.mem_append_left _ (List.mem_append_right _ (List.mem_append_right _ (List.mem_append_right _ (List.mem_append_right _ (List.mem_append_right _ (List.mem_append_left _ h)))))))) gd_wsX11_bounded
set_option maxRecDepth 20000 in
theorem gX11_tellOne_X11_bounded : GoodIn wsX11_tellOne (wsV RX11 246 RX11 yX11_bounded wsX11_bounded) := goodIn_app (goodIn_r _ [21, 22, 23, 11] (by decide +kernel) (by decide +kernel)) ggX11_tellOne_X11_bounded
theorem ggX11_tellOne_X11_must : GoodIn wsX11_tellOne wsX11_must := gi_sub (fun w h => List.mem_cons_of_mem _ (List.mem_append_left _ (List.mem_append_right _ (List.mem_append_right _ (List.mem_append_right _ (List.mem_append_right _ (List.mem_append_right _ (List.mem_append_right _ (List.mem_append_left _ h))))))))) gd_wsX11_must
set_option maxRecDepth 20000 in
theorem gX11_tellOne_X11_must : GoodIn wsX11_tellOne (wsV RX11 249 RX11 yX11_must wsX11_must) := goodIn_app (goodIn_r _ [24, 25, 26, 11] (by decide +kernel) (by decide +kernel)) ggX11_tellOne_X11_must
theorem ggX11_tellOne_X11_fail : GoodIn wsX11_tellOne wsX11_fail := gi_sub (fun w h => List.mem_cons_of_mem _ (List.mem_append_left _ (List.mem_append_right _ (List.mem_append_right _ (List.mem_append_right _ (List.mem_append_right _ (List.mem_append_right _ (List.mem_append_right _ (List.mem_append_right _ (List.mem_append_left _ h)))))))))) gd_wsX11_fail
set_option maxRecDepth 20000 in
theorem gX11_tellOne_X11_fail : GoodIn wsX11_tellOne (wsV RX11 200 RX11 yX11_fail wsX11_fail) := goodIn_app (goodIn_r _ [12, 13, 14, 11] (by decide +kernel) (by decide +kernel)) ggX11_tellOne_X11_fail
theorem ggX11_tellOne_X11_tellLaw : GoodIn wsX11_tellOne wsX11_tellLaw := gi_sub (fun w h => List.mem_cons_of_mem _ (List.mem_append_left _ (List.mem_append_right _ (List.mem_append_right _ (List.mem_append_right _ (List.mem_append_right _ (List.mem_append_right _ (List.mem_append_right _ (List.mem_append_right _ (List.mem_append_right _ h)))))))))) gd_wsX11_tellLaw
set_option maxRecDepth 20000 in
theorem gX11_tellOne_X11_tellLaw : GoodIn wsX11_tellOne (wsV RX11 252 RX11 yX11_tellLaw wsX11_tellLaw) := goodIn_app (goodIn_r _ [30, 31, 32, 11] (by decide +kernel) (by decide +kernel)) ggX11_tellOne_X11_tellLaw
theorem dX11_tellOne_0 : decode cX11_tellOne 0 = .ok (.aload_n 0, 1) := dc1_42 (by decide +kernel)
theorem dX11_tellOne_1 : decode cX11_tellOne 1 = .ok (.getfield 20, 3) := dcw_180 (by decide +kernel)
theorem dX11_tellOne_4 : decode cX11_tellOne 4 = .ok (.aload_n 0, 1) := dc1_42 (by decide +kernel)
theorem dX11_tellOne_5 : decode cX11_tellOne 5 = .ok (.getfield 188, 3) := dcw_180 (by decide +kernel)
theorem dX11_tellOne_8 : decode cX11_tellOne 8 = .ok (.iaload, 1) := dc1_46 (by decide +kernel)
theorem dX11_tellOne_9 : decode cX11_tellOne 9 = .ok (.lookupswitch 120 #[(20, 35), (21, 63), (26, 92)], 35) := by decide +kernel
theorem dX11_tellOne_44 : decode cX11_tellOne 44 = .ok (.aload_n 0, 1) := dc1_42 (by decide +kernel)
theorem dX11_tellOne_45 : decode cX11_tellOne 45 = .ok (.aload_n 0, 1) := dc1_42 (by decide +kernel)
theorem dX11_tellOne_46 : decode cX11_tellOne 46 = .ok (.getfield 40, 3) := dcw_180 (by decide +kernel)
theorem dX11_tellOne_49 : decode cX11_tellOne 49 = .ok (.aload_n 0, 1) := dc1_42 (by decide +kernel)
theorem dX11_tellOne_50 : decode cX11_tellOne 50 = .ok (.getfield 218, 3) := dcw_180 (by decide +kernel)
theorem dX11_tellOne_53 : decode cX11_tellOne 53 = .ok (.iaload, 1) := dc1_46 (by decide +kernel)
theorem dX11_tellOne_54 : decode cX11_tellOne 54 = .ok (.iconst 5, 1) := dc1_8 (by decide +kernel)
theorem dX11_tellOne_55 : decode cX11_tellOne 55 = .ok (.invokevirtual 236, 3) := dcw_182 (by decide +kernel)
theorem dX11_tellOne_58 : decode cX11_tellOne 58 = .ok (.aload_n 0, 1) := dc1_42 (by decide +kernel)
theorem dX11_tellOne_59 : decode cX11_tellOne 59 = .ok (.getfield 185, 3) := dcw_180 (by decide +kernel)
theorem dX11_tellOne_62 : decode cX11_tellOne 62 = .ok (.ifCond .ne 120, 3) := dcs_154 (n := 120) (by decide +kernel)
theorem dX11_tellOne_65 : decode cX11_tellOne 65 = .ok (.aload_n 0, 1) := dc1_42 (by decide +kernel)
theorem dX11_tellOne_66 : decode cX11_tellOne 66 = .ok (.invokevirtual 240, 3) := dcw_182 (by decide +kernel)
theorem dX11_tellOne_69 : decode cX11_tellOne 69 = .ok (.goto 113, 3) := dcs_167 (n := 113) (by decide +kernel)
theorem dX11_tellOne_72 : decode cX11_tellOne 72 = .ok (.aload_n 0, 1) := dc1_42 (by decide +kernel)
theorem dX11_tellOne_73 : decode cX11_tellOne 73 = .ok (.aload_n 0, 1) := dc1_42 (by decide +kernel)
theorem dX11_tellOne_74 : decode cX11_tellOne 74 = .ok (.getfield 49, 3) := dcw_180 (by decide +kernel)
theorem dX11_tellOne_77 : decode cX11_tellOne 77 = .ok (.aload_n 0, 1) := dc1_42 (by decide +kernel)
theorem dX11_tellOne_78 : decode cX11_tellOne 78 = .ok (.getfield 218, 3) := dcw_180 (by decide +kernel)
theorem dX11_tellOne_81 : decode cX11_tellOne 81 = .ok (.iaload, 1) := dc1_46 (by decide +kernel)
theorem dX11_tellOne_82 : decode cX11_tellOne 82 = .ok (.bipush 6, 2) := dcb_16 (n := 6) (by decide +kernel)
theorem dX11_tellOne_84 : decode cX11_tellOne 84 = .ok (.invokevirtual 236, 3) := dcw_182 (by decide +kernel)
theorem dX11_tellOne_87 : decode cX11_tellOne 87 = .ok (.aload_n 0, 1) := dc1_42 (by decide +kernel)
theorem dX11_tellOne_88 : decode cX11_tellOne 88 = .ok (.getfield 185, 3) := dcw_180 (by decide +kernel)
theorem dX11_tellOne_91 : decode cX11_tellOne 91 = .ok (.ifCond .ne 91, 3) := dcs_154 (n := 91) (by decide +kernel)
theorem dX11_tellOne_94 : decode cX11_tellOne 94 = .ok (.aload_n 0, 1) := dc1_42 (by decide +kernel)
theorem dX11_tellOne_95 : decode cX11_tellOne 95 = .ok (.invokevirtual 243, 3) := dcw_182 (by decide +kernel)
theorem dX11_tellOne_98 : decode cX11_tellOne 98 = .ok (.goto 84, 3) := dcs_167 (n := 84) (by decide +kernel)
theorem dX11_tellOne_101 : decode cX11_tellOne 101 = .ok (.aload_n 0, 1) := dc1_42 (by decide +kernel)
theorem dX11_tellOne_102 : decode cX11_tellOne 102 = .ok (.invokevirtual 206, 3) := dcw_182 (by decide +kernel)
theorem dX11_tellOne_105 : decode cX11_tellOne 105 = .ok (.aload_n 0, 1) := dc1_42 (by decide +kernel)
theorem dX11_tellOne_106 : decode cX11_tellOne 106 = .ok (.getfield 58, 3) := dcw_180 (by decide +kernel)
theorem dX11_tellOne_109 : decode cX11_tellOne 109 = .ok (.aload_n 0, 1) := dc1_42 (by decide +kernel)
theorem dX11_tellOne_110 : decode cX11_tellOne 110 = .ok (.getfield 218, 3) := dcw_180 (by decide +kernel)
theorem dX11_tellOne_113 : decode cX11_tellOne 113 = .ok (.aload_n 0, 1) := dc1_42 (by decide +kernel)
theorem dX11_tellOne_114 : decode cX11_tellOne 114 = .ok (.sipush 9999, 3) := dcs_17 (n := 9999) (by decide +kernel)
theorem dX11_tellOne_117 : decode cX11_tellOne 117 = .ok (.invokevirtual 246, 3) := dcw_182 (by decide +kernel)
theorem dX11_tellOne_120 : decode cX11_tellOne 120 = .ok (.iastore, 1) := dc1_79 (by decide +kernel)
theorem dX11_tellOne_121 : decode cX11_tellOne 121 = .ok (.aload_n 0, 1) := dc1_42 (by decide +kernel)
theorem dX11_tellOne_122 : decode cX11_tellOne 122 = .ok (.iconst 4, 1) := dc1_7 (by decide +kernel)
theorem dX11_tellOne_123 : decode cX11_tellOne 123 = .ok (.invokevirtual 249, 3) := dcw_182 (by decide +kernel)
theorem dX11_tellOne_126 : decode cX11_tellOne 126 = .ok (.goto 56, 3) := dcs_167 (n := 56) (by decide +kernel)
theorem dX11_tellOne_129 : decode cX11_tellOne 129 = .ok (.aload_n 0, 1) := dc1_42 (by decide +kernel)
theorem dX11_tellOne_130 : decode cX11_tellOne 130 = .ok (.getfield 20, 3) := dcw_180 (by decide +kernel)
theorem dX11_tellOne_133 : decode cX11_tellOne 133 = .ok (.aload_n 0, 1) := dc1_42 (by decide +kernel)
theorem dX11_tellOne_134 : decode cX11_tellOne 134 = .ok (.getfield 188, 3) := dcw_180 (by decide +kernel)
theorem dX11_tellOne_137 : decode cX11_tellOne 137 = .ok (.iaload, 1) := dc1_46 (by decide +kernel)
theorem dX11_tellOne_138 : decode cX11_tellOne 138 = .ok (.bipush 22, 2) := dcb_16 (n := 22) (by decide +kernel)
theorem dX11_tellOne_140 : decode cX11_tellOne 140 = .ok (.isub, 1) := dc1_100 (by decide +kernel)
theorem dX11_tellOne_141 : decode cX11_tellOne 141 = .ok (.istore_n 1, 1) := dc1_60 (by decide +kernel)
theorem dX11_tellOne_142 : decode cX11_tellOne 142 = .ok (.iload_n 1, 1) := dc1_27 (by decide +kernel)
theorem dX11_tellOne_143 : decode cX11_tellOne 143 = .ok (.ifCond .lt 17, 3) := dcs_155 (n := 17) (by decide +kernel)
theorem dX11_tellOne_146 : decode cX11_tellOne 146 = .ok (.aload_n 0, 1) := dc1_42 (by decide +kernel)
theorem dX11_tellOne_147 : decode cX11_tellOne 147 = .ok (.getfield 20, 3) := dcw_180 (by decide +kernel)
theorem dX11_tellOne_150 : decode cX11_tellOne 150 = .ok (.aload_n 0, 1) := dc1_42 (by decide +kernel)
theorem dX11_tellOne_151 : decode cX11_tellOne 151 = .ok (.getfield 188, 3) := dcw_180 (by decide +kernel)
theorem dX11_tellOne_154 : decode cX11_tellOne 154 = .ok (.iaload, 1) := dc1_46 (by decide +kernel)
theorem dX11_tellOne_155 : decode cX11_tellOne 155 = .ok (.bipush 25, 2) := dcb_16 (n := 25) (by decide +kernel)
theorem dX11_tellOne_157 : decode cX11_tellOne 157 = .ok (.if_icmp .le 8, 3) := dcs_164 (n := 8) (by decide +kernel)
theorem dX11_tellOne_160 : decode cX11_tellOne 160 = .ok (.aload_n 0, 1) := dc1_42 (by decide +kernel)
theorem dX11_tellOne_161 : decode cX11_tellOne 161 = .ok (.iconst 1, 1) := dc1_4 (by decide +kernel)
theorem dX11_tellOne_162 : decode cX11_tellOne 162 = .ok (.invokevirtual 200, 3) := dcw_182 (by decide +kernel)
theorem dX11_tellOne_165 : decode cX11_tellOne 165 = .ok (.aload_n 0, 1) := dc1_42 (by decide +kernel)
theorem dX11_tellOne_166 : decode cX11_tellOne 166 = .ok (.getfield 185, 3) := dcw_180 (by decide +kernel)
theorem dX11_tellOne_169 : decode cX11_tellOne 169 = .ok (.ifCond .le 4, 3) := dcs_158 (n := 4) (by decide +kernel)
theorem dX11_tellOne_172 : decode cX11_tellOne 172 = .ok (.return_, 1) := dc1_177 (by decide +kernel)
theorem dX11_tellOne_173 : decode cX11_tellOne 173 = .ok (.aload_n 0, 1) := dc1_42 (by decide +kernel)
theorem dX11_tellOne_174 : decode cX11_tellOne 174 = .ok (.invokevirtual 206, 3) := dcw_182 (by decide +kernel)
theorem dX11_tellOne_177 : decode cX11_tellOne 177 = .ok (.aload_n 0, 1) := dc1_42 (by decide +kernel)
theorem dX11_tellOne_178 : decode cX11_tellOne 178 = .ok (.iload_n 1, 1) := dc1_27 (by decide +kernel)
theorem dX11_tellOne_179 : decode cX11_tellOne 179 = .ok (.invokevirtual 252, 3) := dcw_182 (by decide +kernel)
theorem dX11_tellOne_182 : decode cX11_tellOne 182 = .ok (.return_, 1) := dc1_177 (by decide +kernel)
theorem ggX11_tellLaw_X11_must : GoodIn wsX11_tellLaw wsX11_must := gi_sub (fun w h => List.mem_cons_of_mem _ (List.mem_append_left _ (List.mem_append_right _ (List.mem_append_left _ h)))) gd_wsX11_must
set_option maxRecDepth 20000 in
theorem gX11_tellLaw_X11_must : GoodIn wsX11_tellLaw (wsV RX11 249 RX11 yX11_must wsX11_must) := goodIn_app (goodIn_r _ [10, 11, 12, 13] (by decide +kernel) (by decide +kernel)) ggX11_tellLaw_X11_must
theorem ggX11_tellLaw_X11_is : GoodIn wsX11_tellLaw wsX11_is := gi_sub (fun w h => List.mem_cons_of_mem _ (List.mem_append_left _ (List.mem_append_right _ (List.mem_append_right _ (List.mem_append_left _ h))))) gd_wsX11_is
set_option maxRecDepth 20000 in
theorem gX11_tellLaw_X11_is : GoodIn wsX11_tellLaw (wsV RX11 203 RX11 yX11_is wsX11_is) := goodIn_app (goodIn_r _ [14, 15, 16, 13] (by decide +kernel) (by decide +kernel)) ggX11_tellLaw_X11_is
theorem ggX11_tellLaw_X11_fail : GoodIn wsX11_tellLaw wsX11_fail := gi_sub (fun w h => List.mem_cons_of_mem _ (List.mem_append_left _ (List.mem_append_right _ (List.mem_append_right _ (List.mem_append_right _ (List.mem_append_left _ h)))))) gd_wsX11_fail
set_option maxRecDepth 20000 in
theorem gX11_tellLaw_X11_fail : GoodIn wsX11_tellLaw (wsV RX11 200 RX11 yX11_fail wsX11_fail) := goodIn_app (goodIn_r _ [20, 21, 22, 13] (by decide +kernel) (by decide +kernel)) ggX11_tellLaw_X11_fail
theorem ggX11_tellLaw_X11_goesOn : GoodIn wsX11_tellLaw wsX11_goesOn := gi_sub (fun w h => List.mem_cons_of_mem _ (List.mem_append_left _ (List.mem_append_right _ (List.mem_append_right _ (List.mem_append_right _ (List.mem_append_right _ (List.mem_append_left _ h))))))) gd_wsX11_goesOn
set_option maxRecDepth 20000 in
theorem gX11_tellLaw_X11_goesOn : GoodIn wsX11_tellLaw (wsV RX11 206 RX11 yX11_goesOn wsX11_goesOn) := goodIn_app (goodIn_r _ [17, 18, 19, 13] (by decide +kernel) (by decide +kernel)) ggX11_tellLaw_X11_goesOn
theorem ggX11_tellLaw_X11_expression : GoodIn wsX11_tellLaw wsX11_expression := gi_sub (fun w h => List.mem_cons_of_mem _ (List.mem_append_left _ (List.mem_append_right _ (List.mem_append_right _ (List.mem_append_right _ (List.mem_append_right _ (List.mem_append_right _ (List.mem_append_left _ h)))))))) gd_wsX11_expression
set_option maxRecDepth 20000 in
theorem gX11_tellLaw_X11_expression : GoodIn wsX11_tellLaw (wsV RX11 258 RX11 yX11_expression wsX11_expression) := goodIn_app (goodIn_r _ [23, 24, 25, 13] (by decide +kernel) (by decide +kernel)) ggX11_tellLaw_X11_expression
theorem ggX11_tellLaw_X11_term : GoodIn wsX11_tellLaw wsX11_term := gi_sub (fun w h => List.mem_cons_of_mem _ (List.mem_append_left _ (List.mem_append_right _ (List.mem_append_right _ (List.mem_append_right _ (List.mem_append_right _ (List.mem_append_right _ (List.mem_append_right _ h)))))))) gd_wsX11_term
set_option maxRecDepth 20000 in
theorem gX11_tellLaw_X11_term : GoodIn wsX11_tellLaw (wsV RX11 261 RX11 yX11_term wsX11_term) := goodIn_app (goodIn_r _ [26, 27, 28, 13] (by decide +kernel) (by decide +kernel)) ggX11_tellLaw_X11_term
theorem dX11_tellLaw_0 : decode cX11_tellLaw 0 = .ok (.aload_n 0, 1) := dc1_42 (by decide +kernel)
theorem dX11_tellLaw_1 : decode cX11_tellLaw 1 = .ok (.iconst 5, 1) := dc1_8 (by decide +kernel)
theorem dX11_tellLaw_2 : decode cX11_tellLaw 2 = .ok (.invokevirtual 249, 3) := dcw_182 (by decide +kernel)
theorem dX11_tellLaw_5 : decode cX11_tellLaw 5 = .ok (.aload_n 0, 1) := dc1_42 (by decide +kernel)
theorem dX11_tellLaw_6 : decode cX11_tellLaw 6 = .ok (.getfield 221, 3) := dcw_180 (by decide +kernel)
theorem dX11_tellLaw_9 : decode cX11_tellLaw 9 = .ok (.istore_n 2, 1) := dc1_61 (by decide +kernel)
theorem dX11_tellLaw_10 : decode cX11_tellLaw 10 = .ok (.iconst 0, 1) := dc1_3 (by decide +kernel)
theorem dX11_tellLaw_11 : decode cX11_tellLaw 11 = .ok (.istore_n 3, 1) := dc1_62 (by decide +kernel)
theorem dX11_tellLaw_12 : decode cX11_tellLaw 12 = .ok (.aload_n 0, 1) := dc1_42 (by decide +kernel)
theorem dX11_tellLaw_13 : decode cX11_tellLaw 13 = .ok (.getfield 185, 3) := dcw_180 (by decide +kernel)
theorem dX11_tellLaw_16 : decode cX11_tellLaw 16 = .ok (.ifCond .ne 113, 3) := dcs_154 (n := 113) (by decide +kernel)
theorem dX11_tellLaw_19 : decode cX11_tellLaw 19 = .ok (.aload_n 0, 1) := dc1_42 (by decide +kernel)
theorem dX11_tellLaw_20 : decode cX11_tellLaw 20 = .ok (.bipush 27, 2) := dcb_16 (n := 27) (by decide +kernel)
theorem dX11_tellLaw_22 : decode cX11_tellLaw 22 = .ok (.invokevirtual 203, 3) := dcw_182 (by decide +kernel)
theorem dX11_tellLaw_25 : decode cX11_tellLaw 25 = .ok (.ifCond .eq 104, 3) := dcs_153 (n := 104) (by decide +kernel)
theorem dX11_tellLaw_28 : decode cX11_tellLaw 28 = .ok (.iload_n 3, 1) := dc1_29 (by decide +kernel)
theorem dX11_tellLaw_29 : decode cX11_tellLaw 29 = .ok (.iconst 4, 1) := dc1_7 (by decide +kernel)
theorem dX11_tellLaw_30 : decode cX11_tellLaw 30 = .ok (.if_icmp .ne 8, 3) := dcs_160 (n := 8) (by decide +kernel)
theorem dX11_tellLaw_33 : decode cX11_tellLaw 33 = .ok (.aload_n 0, 1) := dc1_42 (by decide +kernel)
theorem dX11_tellLaw_34 : decode cX11_tellLaw 34 = .ok (.iconst 2, 1) := dc1_5 (by decide +kernel)
theorem dX11_tellLaw_35 : decode cX11_tellLaw 35 = .ok (.invokevirtual 200, 3) := dcw_182 (by decide +kernel)
theorem dX11_tellLaw_38 : decode cX11_tellLaw 38 = .ok (.aload_n 0, 1) := dc1_42 (by decide +kernel)
theorem dX11_tellLaw_39 : decode cX11_tellLaw 39 = .ok (.getfield 185, 3) := dcw_180 (by decide +kernel)
theorem dX11_tellLaw_42 : decode cX11_tellLaw 42 = .ok (.ifCond .le 4, 3) := dcs_158 (n := 4) (by decide +kernel)
theorem dX11_tellLaw_45 : decode cX11_tellLaw 45 = .ok (.return_, 1) := dc1_177 (by decide +kernel)
theorem dX11_tellLaw_46 : decode cX11_tellLaw 46 = .ok (.iinc 3 1, 3) := dc_iinc (m := 1) (by decide +kernel)
theorem dX11_tellLaw_49 : decode cX11_tellLaw 49 = .ok (.aload_n 0, 1) := dc1_42 (by decide +kernel)
theorem dX11_tellLaw_50 : decode cX11_tellLaw 50 = .ok (.invokevirtual 206, 3) := dcw_182 (by decide +kernel)
theorem dX11_tellLaw_53 : decode cX11_tellLaw 53 = .ok (.aload_n 0, 1) := dc1_42 (by decide +kernel)
theorem dX11_tellLaw_54 : decode cX11_tellLaw 54 = .ok (.getfield 67, 3) := dcw_180 (by decide +kernel)
theorem dX11_tellLaw_57 : decode cX11_tellLaw 57 = .ok (.aload_n 0, 1) := dc1_42 (by decide +kernel)
theorem dX11_tellLaw_58 : decode cX11_tellLaw 58 = .ok (.getfield 221, 3) := dcw_180 (by decide +kernel)
theorem dX11_tellLaw_61 : decode cX11_tellLaw 61 = .ok (.iconst 1, 1) := dc1_4 (by decide +kernel)
theorem dX11_tellLaw_62 : decode cX11_tellLaw 62 = .ok (.bastore, 1) := dc1_84 (by decide +kernel)
theorem dX11_tellLaw_63 : decode cX11_tellLaw 63 = .ok (.aload_n 0, 1) := dc1_42 (by decide +kernel)
theorem dX11_tellLaw_64 : decode cX11_tellLaw 64 = .ok (.getfield 71, 3) := dcw_180 (by decide +kernel)
theorem dX11_tellLaw_67 : decode cX11_tellLaw 67 = .ok (.aload_n 0, 1) := dc1_42 (by decide +kernel)
theorem dX11_tellLaw_68 : decode cX11_tellLaw 68 = .ok (.getfield 221, 3) := dcw_180 (by decide +kernel)
theorem dX11_tellLaw_71 : decode cX11_tellLaw 71 = .ok (.aload_n 0, 1) := dc1_42 (by decide +kernel)
theorem dX11_tellLaw_72 : decode cX11_tellLaw 72 = .ok (.getfield 224, 3) := dcw_180 (by decide +kernel)
theorem dX11_tellLaw_75 : decode cX11_tellLaw 75 = .ok (.iastore, 1) := dc1_79 (by decide +kernel)
theorem dX11_tellLaw_76 : decode cX11_tellLaw 76 = .ok (.aload_n 0, 1) := dc1_42 (by decide +kernel)
theorem dX11_tellLaw_77 : decode cX11_tellLaw 77 = .ok (.invokevirtual 258, 3) := dcw_182 (by decide +kernel)
theorem dX11_tellLaw_80 : decode cX11_tellLaw 80 = .ok (.aload_n 0, 1) := dc1_42 (by decide +kernel)
theorem dX11_tellLaw_81 : decode cX11_tellLaw 81 = .ok (.bipush 13, 2) := dcb_16 (n := 13) (by decide +kernel)
theorem dX11_tellLaw_83 : decode cX11_tellLaw 83 = .ok (.invokevirtual 249, 3) := dcw_182 (by decide +kernel)
theorem dX11_tellLaw_86 : decode cX11_tellLaw 86 = .ok (.aload_n 0, 1) := dc1_42 (by decide +kernel)
theorem dX11_tellLaw_87 : decode cX11_tellLaw 87 = .ok (.getfield 74, 3) := dcw_180 (by decide +kernel)
theorem dX11_tellLaw_90 : decode cX11_tellLaw 90 = .ok (.aload_n 0, 1) := dc1_42 (by decide +kernel)
theorem dX11_tellLaw_91 : decode cX11_tellLaw 91 = .ok (.getfield 221, 3) := dcw_180 (by decide +kernel)
theorem dX11_tellLaw_94 : decode cX11_tellLaw 94 = .ok (.aload_n 0, 1) := dc1_42 (by decide +kernel)
theorem dX11_tellLaw_95 : decode cX11_tellLaw 95 = .ok (.getfield 224, 3) := dcw_180 (by decide +kernel)
theorem dX11_tellLaw_98 : decode cX11_tellLaw 98 = .ok (.iastore, 1) := dc1_79 (by decide +kernel)
theorem dX11_tellLaw_99 : decode cX11_tellLaw 99 = .ok (.aload_n 0, 1) := dc1_42 (by decide +kernel)
theorem dX11_tellLaw_100 : decode cX11_tellLaw 100 = .ok (.getfield 185, 3) := dcw_180 (by decide +kernel)
theorem dX11_tellLaw_103 : decode cX11_tellLaw 103 = .ok (.ifCond .ne 7, 3) := dcs_154 (n := 7) (by decide +kernel)
theorem dX11_tellLaw_106 : decode cX11_tellLaw 106 = .ok (.aload_n 0, 1) := dc1_42 (by decide +kernel)
theorem dX11_tellLaw_107 : decode cX11_tellLaw 107 = .ok (.invokevirtual 258, 3) := dcw_182 (by decide +kernel)
theorem dX11_tellLaw_110 : decode cX11_tellLaw 110 = .ok (.aload_n 0, 1) := dc1_42 (by decide +kernel)
theorem dX11_tellLaw_111 : decode cX11_tellLaw 111 = .ok (.bipush 28, 2) := dcb_16 (n := 28) (by decide +kernel)
theorem dX11_tellLaw_113 : decode cX11_tellLaw 113 = .ok (.invokevirtual 249, 3) := dcw_182 (by decide +kernel)
theorem dX11_tellLaw_116 : decode cX11_tellLaw 116 = .ok (.aload_n 0, 1) := dc1_42 (by decide +kernel)
theorem dX11_tellLaw_117 : decode cX11_tellLaw 117 = .ok (.invokevirtual 261, 3) := dcw_182 (by decide +kernel)
theorem dX11_tellLaw_120 : decode cX11_tellLaw 120 = .ok (.aload_n 0, 1) := dc1_42 (by decide +kernel)
theorem dX11_tellLaw_121 : decode cX11_tellLaw 121 = .ok (.bipush 29, 2) := dcb_16 (n := 29) (by decide +kernel)
theorem dX11_tellLaw_123 : decode cX11_tellLaw 123 = .ok (.invokevirtual 249, 3) := dcw_182 (by decide +kernel)
theorem dX11_tellLaw_126 : decode cX11_tellLaw 126 = .ok (.goto (-114), 3) := dcs_167 (n := 65422) (by decide +kernel)
theorem dX11_tellLaw_129 : decode cX11_tellLaw 129 = .ok (.aload_n 0, 1) := dc1_42 (by decide +kernel)
theorem dX11_tellLaw_130 : decode cX11_tellLaw 130 = .ok (.getfield 67, 3) := dcw_180 (by decide +kernel)
theorem dX11_tellLaw_133 : decode cX11_tellLaw 133 = .ok (.aload_n 0, 1) := dc1_42 (by decide +kernel)
theorem dX11_tellLaw_134 : decode cX11_tellLaw 134 = .ok (.getfield 221, 3) := dcw_180 (by decide +kernel)
theorem dX11_tellLaw_137 : decode cX11_tellLaw 137 = .ok (.iconst 0, 1) := dc1_3 (by decide +kernel)
theorem dX11_tellLaw_138 : decode cX11_tellLaw 138 = .ok (.bastore, 1) := dc1_84 (by decide +kernel)
theorem dX11_tellLaw_139 : decode cX11_tellLaw 139 = .ok (.aload_n 0, 1) := dc1_42 (by decide +kernel)
theorem dX11_tellLaw_140 : decode cX11_tellLaw 140 = .ok (.invokevirtual 261, 3) := dcw_182 (by decide +kernel)
theorem dX11_tellLaw_143 : decode cX11_tellLaw 143 = .ok (.aload_n 0, 1) := dc1_42 (by decide +kernel)
theorem dX11_tellLaw_144 : decode cX11_tellLaw 144 = .ok (.iconst 4, 1) := dc1_7 (by decide +kernel)
theorem dX11_tellLaw_145 : decode cX11_tellLaw 145 = .ok (.invokevirtual 249, 3) := dcw_182 (by decide +kernel)
theorem dX11_tellLaw_148 : decode cX11_tellLaw 148 = .ok (.aload_n 0, 1) := dc1_42 (by decide +kernel)
theorem dX11_tellLaw_149 : decode cX11_tellLaw 149 = .ok (.getfield 185, 3) := dcw_180 (by decide +kernel)
theorem dX11_tellLaw_152 : decode cX11_tellLaw 152 = .ok (.ifCond .le 4, 3) := dcs_158 (n := 4) (by decide +kernel)
theorem dX11_tellLaw_155 : decode cX11_tellLaw 155 = .ok (.return_, 1) := dc1_177 (by decide +kernel)
theorem dX11_tellLaw_156 : decode cX11_tellLaw 156 = .ok (.aload_n 0, 1) := dc1_42 (by decide +kernel)
theorem dX11_tellLaw_157 : decode cX11_tellLaw 157 = .ok (.getfield 61, 3) := dcw_180 (by decide +kernel)
theorem dX11_tellLaw_160 : decode cX11_tellLaw 160 = .ok (.iconst 4, 1) := dc1_7 (by decide +kernel)
theorem dX11_tellLaw_161 : decode cX11_tellLaw 161 = .ok (.aload_n 0, 1) := dc1_42 (by decide +kernel)
theorem dX11_tellLaw_162 : decode cX11_tellLaw 162 = .ok (.getfield 218, 3) := dcw_180 (by decide +kernel)
theorem dX11_tellLaw_165 : decode cX11_tellLaw 165 = .ok (.imul, 1) := dc1_104 (by decide +kernel)
theorem dX11_tellLaw_166 : decode cX11_tellLaw 166 = .ok (.iload_n 1, 1) := dc1_27 (by decide +kernel)
theorem dX11_tellLaw_167 : decode cX11_tellLaw 167 = .ok (.iadd, 1) := dc1_96 (by decide +kernel)
theorem dX11_tellLaw_168 : decode cX11_tellLaw 168 = .ok (.iload_n 2, 1) := dc1_28 (by decide +kernel)
theorem dX11_tellLaw_169 : decode cX11_tellLaw 169 = .ok (.iastore, 1) := dc1_79 (by decide +kernel)
theorem dX11_tellLaw_170 : decode cX11_tellLaw 170 = .ok (.aload_n 0, 1) := dc1_42 (by decide +kernel)
theorem dX11_tellLaw_171 : decode cX11_tellLaw 171 = .ok (.getfield 64, 3) := dcw_180 (by decide +kernel)
theorem dX11_tellLaw_174 : decode cX11_tellLaw 174 = .ok (.iconst 4, 1) := dc1_7 (by decide +kernel)
theorem dX11_tellLaw_175 : decode cX11_tellLaw 175 = .ok (.aload_n 0, 1) := dc1_42 (by decide +kernel)
theorem dX11_tellLaw_176 : decode cX11_tellLaw 176 = .ok (.getfield 218, 3) := dcw_180 (by decide +kernel)
theorem dX11_tellLaw_179 : decode cX11_tellLaw 179 = .ok (.imul, 1) := dc1_104 (by decide +kernel)
theorem dX11_tellLaw_180 : decode cX11_tellLaw 180 = .ok (.iload_n 1, 1) := dc1_27 (by decide +kernel)
theorem dX11_tellLaw_181 : decode cX11_tellLaw 181 = .ok (.iadd, 1) := dc1_96 (by decide +kernel)
theorem dX11_tellLaw_182 : decode cX11_tellLaw 182 = .ok (.aload_n 0, 1) := dc1_42 (by decide +kernel)
theorem dX11_tellLaw_183 : decode cX11_tellLaw 183 = .ok (.getfield 221, 3) := dcw_180 (by decide +kernel)
theorem dX11_tellLaw_186 : decode cX11_tellLaw 186 = .ok (.iastore, 1) := dc1_79 (by decide +kernel)
theorem dX11_tellLaw_187 : decode cX11_tellLaw 187 = .ok (.return_, 1) := dc1_177 (by decide +kernel)
theorem ggX11_term_X11_expression : GoodIn wsX11_term wsX11_expression := gi_sub (fun w h => List.mem_cons_of_mem _ (List.mem_append_left _ (List.mem_append_right _ h))) gd_wsX11_expression
set_option maxRecDepth 20000 in
theorem gX11_term_X11_expression : GoodIn wsX11_term (wsV RX11 258 RX11 yX11_expression wsX11_expression) := goodIn_app (goodIn_r _ [6, 7, 8, 9] (by decide +kernel) (by decide +kernel)) ggX11_term_X11_expression
theorem dX11_term_0 : decode cX11_term 0 = .ok (.aload_n 0, 1) := dc1_42 (by decide +kernel)
theorem dX11_term_1 : decode cX11_term 1 = .ok (.getfield 77, 3) := dcw_180 (by decide +kernel)
theorem dX11_term_4 : decode cX11_term 4 = .ok (.aload_n 0, 1) := dc1_42 (by decide +kernel)
theorem dX11_term_5 : decode cX11_term 5 = .ok (.getfield 221, 3) := dcw_180 (by decide +kernel)
theorem dX11_term_8 : decode cX11_term 8 = .ok (.aload_n 0, 1) := dc1_42 (by decide +kernel)
theorem dX11_term_9 : decode cX11_term 9 = .ok (.getfield 224, 3) := dcw_180 (by decide +kernel)
theorem dX11_term_12 : decode cX11_term 12 = .ok (.iastore, 1) := dc1_79 (by decide +kernel)
theorem dX11_term_13 : decode cX11_term 13 = .ok (.aload_n 0, 1) := dc1_42 (by decide +kernel)
theorem dX11_term_14 : decode cX11_term 14 = .ok (.getfield 185, 3) := dcw_180 (by decide +kernel)
theorem dX11_term_17 : decode cX11_term 17 = .ok (.ifCond .ne 7, 3) := dcs_154 (n := 7) (by decide +kernel)
theorem dX11_term_20 : decode cX11_term 20 = .ok (.aload_n 0, 1) := dc1_42 (by decide +kernel)
theorem dX11_term_21 : decode cX11_term 21 = .ok (.invokevirtual 258, 3) := dcw_182 (by decide +kernel)
theorem dX11_term_24 : decode cX11_term 24 = .ok (.aload_n 0, 1) := dc1_42 (by decide +kernel)
theorem dX11_term_25 : decode cX11_term 25 = .ok (.getfield 80, 3) := dcw_180 (by decide +kernel)
theorem dX11_term_28 : decode cX11_term 28 = .ok (.aload_n 0, 1) := dc1_42 (by decide +kernel)
theorem dX11_term_29 : decode cX11_term 29 = .ok (.getfield 221, 3) := dcw_180 (by decide +kernel)
theorem dX11_term_32 : decode cX11_term 32 = .ok (.aload_n 0, 1) := dc1_42 (by decide +kernel)
theorem dX11_term_33 : decode cX11_term 33 = .ok (.getfield 224, 3) := dcw_180 (by decide +kernel)
theorem dX11_term_36 : decode cX11_term 36 = .ok (.iastore, 1) := dc1_79 (by decide +kernel)
theorem dX11_term_37 : decode cX11_term 37 = .ok (.aload_n 0, 1) := dc1_42 (by decide +kernel)
theorem dX11_term_38 : decode cX11_term 38 = .ok (.dup, 1) := dc1_89 (by decide +kernel)
theorem dX11_term_39 : decode cX11_term 39 = .ok (.getfield 221, 3) := dcw_180 (by decide +kernel)
theorem dX11_term_42 : decode cX11_term 42 = .ok (.iconst 1, 1) := dc1_4 (by decide +kernel)
theorem dX11_term_43 : decode cX11_term 43 = .ok (.iadd, 1) := dc1_96 (by decide +kernel)
theorem dX11_term_44 : decode cX11_term 44 = .ok (.putfield 221, 3) := dcw_181 (by decide +kernel)
theorem dX11_term_47 : decode cX11_term 47 = .ok (.return_, 1) := dc1_177 (by decide +kernel)
theorem dX11_begins_0 : decode cX11_begins 0 = .ok (.iconst 0, 1) := dc1_3 (by decide +kernel)
theorem dX11_begins_1 : decode cX11_begins 1 = .ok (.istore_n 1, 1) := dc1_60 (by decide +kernel)
theorem dX11_begins_2 : decode cX11_begins 2 = .ok (.iload_n 1, 1) := dc1_27 (by decide +kernel)
theorem dX11_begins_3 : decode cX11_begins 3 = .ok (.bipush 29, 2) := dcb_16 (n := 29) (by decide +kernel)
theorem dX11_begins_5 : decode cX11_begins 5 = .ok (.if_icmp .ge 32, 3) := dcs_162 (n := 32) (by decide +kernel)
theorem dX11_begins_8 : decode cX11_begins 8 = .ok (.aload_n 0, 1) := dc1_42 (by decide +kernel)
theorem dX11_begins_9 : decode cX11_begins 9 = .ok (.getfield 101, 3) := dcw_180 (by decide +kernel)
theorem dX11_begins_12 : decode cX11_begins 12 = .ok (.iload_n 1, 1) := dc1_27 (by decide +kernel)
theorem dX11_begins_13 : decode cX11_begins 13 = .ok (.iload_n 1, 1) := dc1_27 (by decide +kernel)
theorem dX11_begins_14 : decode cX11_begins 14 = .ok (.iconst 5, 1) := dc1_8 (by decide +kernel)
theorem dX11_begins_15 : decode cX11_begins 15 = .ok (.if_icmp .lt 14, 3) := dcs_161 (n := 14) (by decide +kernel)
theorem dX11_begins_18 : decode cX11_begins 18 = .ok (.iload_n 1, 1) := dc1_27 (by decide +kernel)
theorem dX11_begins_19 : decode cX11_begins 19 = .ok (.bipush 10, 2) := dcb_16 (n := 10) (by decide +kernel)
theorem dX11_begins_21 : decode cX11_begins 21 = .ok (.if_icmp .ge 8, 3) := dcs_162 (n := 8) (by decide +kernel)
theorem dX11_begins_24 : decode cX11_begins 24 = .ok (.bipush (-2), 2) := dcb_16 (n := 254) (by decide +kernel)
theorem dX11_begins_26 : decode cX11_begins 26 = .ok (.goto 4, 3) := dcs_167 (n := 4) (by decide +kernel)
theorem dX11_begins_29 : decode cX11_begins 29 = .ok (.iconst 0, 1) := dc1_3 (by decide +kernel)
theorem dX11_begins_30 : decode cX11_begins 30 = .ok (.iastore, 1) := dc1_79 (by decide +kernel)
theorem dX11_begins_31 : decode cX11_begins 31 = .ok (.iinc 1 1, 3) := dc_iinc (m := 1) (by decide +kernel)
theorem dX11_begins_34 : decode cX11_begins 34 = .ok (.goto (-32), 3) := dcs_167 (n := 65504) (by decide +kernel)
theorem dX11_begins_37 : decode cX11_begins 37 = .ok (.aload_n 0, 1) := dc1_42 (by decide +kernel)
theorem dX11_begins_38 : decode cX11_begins 38 = .ok (.getfield 104, 3) := dcw_180 (by decide +kernel)
theorem dX11_begins_41 : decode cX11_begins 41 = .ok (.iconst 0, 1) := dc1_3 (by decide +kernel)
theorem dX11_begins_42 : decode cX11_begins 42 = .ok (.iconst 1, 1) := dc1_4 (by decide +kernel)
theorem dX11_begins_43 : decode cX11_begins 43 = .ok (.iastore, 1) := dc1_79 (by decide +kernel)
theorem dX11_begins_44 : decode cX11_begins 44 = .ok (.iconst 1, 1) := dc1_4 (by decide +kernel)
theorem dX11_begins_45 : decode cX11_begins 45 = .ok (.istore_n 1, 1) := dc1_60 (by decide +kernel)
theorem dX11_begins_46 : decode cX11_begins 46 = .ok (.iload_n 1, 1) := dc1_27 (by decide +kernel)
theorem dX11_begins_47 : decode cX11_begins 47 = .ok (.bipush 6, 2) := dcb_16 (n := 6) (by decide +kernel)
theorem dX11_begins_49 : decode cX11_begins 49 = .ok (.if_icmp .ge 26, 3) := dcs_162 (n := 26) (by decide +kernel)
theorem dX11_begins_52 : decode cX11_begins 52 = .ok (.aload_n 0, 1) := dc1_42 (by decide +kernel)
theorem dX11_begins_53 : decode cX11_begins 53 = .ok (.getfield 104, 3) := dcw_180 (by decide +kernel)
theorem dX11_begins_56 : decode cX11_begins 56 = .ok (.iload_n 1, 1) := dc1_27 (by decide +kernel)
theorem dX11_begins_57 : decode cX11_begins 57 = .ok (.bipush 6, 2) := dcb_16 (n := 6) (by decide +kernel)
theorem dX11_begins_59 : decode cX11_begins 59 = .ok (.aload_n 0, 1) := dc1_42 (by decide +kernel)
theorem dX11_begins_60 : decode cX11_begins 60 = .ok (.getfield 104, 3) := dcw_180 (by decide +kernel)
theorem dX11_begins_63 : decode cX11_begins 63 = .ok (.iload_n 1, 1) := dc1_27 (by decide +kernel)
theorem dX11_begins_64 : decode cX11_begins 64 = .ok (.iconst 1, 1) := dc1_4 (by decide +kernel)
theorem dX11_begins_65 : decode cX11_begins 65 = .ok (.isub, 1) := dc1_100 (by decide +kernel)
theorem dX11_begins_66 : decode cX11_begins 66 = .ok (.iaload, 1) := dc1_46 (by decide +kernel)
theorem dX11_begins_67 : decode cX11_begins 67 = .ok (.imul, 1) := dc1_104 (by decide +kernel)
theorem dX11_begins_68 : decode cX11_begins 68 = .ok (.iastore, 1) := dc1_79 (by decide +kernel)
theorem dX11_begins_69 : decode cX11_begins 69 = .ok (.iinc 1 1, 3) := dc_iinc (m := 1) (by decide +kernel)
theorem dX11_begins_72 : decode cX11_begins 72 = .ok (.goto (-26), 3) := dcs_167 (n := 65510) (by decide +kernel)
theorem dX11_begins_75 : decode cX11_begins 75 = .ok (.aload_n 0, 1) := dc1_42 (by decide +kernel)
theorem dX11_begins_76 : decode cX11_begins 76 = .ok (.aload_n 0, 1) := dc1_42 (by decide +kernel)
theorem dX11_begins_77 : decode cX11_begins 77 = .ok (.getfield 58, 3) := dcw_180 (by decide +kernel)
theorem dX11_begins_80 : decode cX11_begins 80 = .ok (.aload_n 0, 1) := dc1_42 (by decide +kernel)
theorem dX11_begins_81 : decode cX11_begins 81 = .ok (.getfield 215, 3) := dcw_180 (by decide +kernel)
theorem dX11_begins_84 : decode cX11_begins 84 = .ok (.iaload, 1) := dc1_46 (by decide +kernel)
theorem dX11_begins_85 : decode cX11_begins 85 = .ok (.putfield 289, 3) := dcw_181 (by decide +kernel)
theorem dX11_begins_88 : decode cX11_begins 88 = .ok (.return_, 1) := dc1_177 (by decide +kernel)
theorem LX11_term_185 : Cond.fieldLink RX11 185 "GuessFerryModel" "fault" "I" ∈ wsX11_term := by decide +kernel
theorem LX11_term_221 : Cond.fieldLink RX11 221 "GuessFerryModel" "branches" "I" ∈ wsX11_term := by decide +kernel
theorem LX11_term_224 : Cond.fieldLink RX11 224 "GuessFerryModel" "codes" "I" ∈ wsX11_term := by decide +kernel
theorem LX11_term_77 : Cond.fieldLink RX11 77 "GuessFerryModel" "testTo" "[I" ∈ wsX11_term := by decide +kernel
theorem LX11_term_80 : Cond.fieldLink RX11 80 "GuessFerryModel" "termTo" "[I" ∈ wsX11_term := by decide +kernel
theorem inX11_term_X11 : ∀ w ∈ u_ws RX11 TX11 58, w ∈ wsX11_term := by decide +kernel
set_option maxHeartbeats 4000000 in
set_option maxRecDepth 100000 in
theorem br_term_24 {l : Launch} {dC : Nat → ClassId} {dI : Nat → Nat → Nat} {cB cI cJ cZ cS : ClassId} {h : Nat} {a : Nat → Nat} {as : List Value} {s' : RS} (s : RS) (hB : r_term_24 s = some s') : BlkV l yX11_term wsX11_term ({ frames := 4, cells := 0, slots := 0, locals := 83 }) cX11_term 1 none (dC, dI) (tysA cB cI cJ cZ cS) as 24 (mwS cB cI cJ cZ h a s) [(0, .ref h)] [] (fun u => u = (mwS cB cI cJ cZ h a s')) := by
  intro p e s0 m below meth c A E H locs ls hP hD hS hl
  obtain ⟨C, hr, hlocks, hA, hK, hN⟩ := id E
  obtain ⟨hx, hb, hml, hown, hts⟩ := id C
  unfold r_term_24 at hB
  refine lv_aload_n hx hb dX11_term_24 rfl (lv_at hl 0 rfl) ?_
  refine q_get (v := .ref (a 34)) C inX11_term_X11 hK hP 0 rfl rfl 34 (by decide) rfl LX11_term_80 rfl dX11_term_25 ?_
  refine lv_aload_n hx hb dX11_term_28 rfl (lv_at hl 0 rfl) ?_
  refine q_get (v := .int (s.v 29)) C inX11_term_X11 hK hP 0 rfl rfl 29 (by decide) rfl LX11_term_221 rfl dX11_term_29 ?_
  refine lv_aload_n hx hb dX11_term_32 rfl (lv_at hl 0 rfl) ?_
  refine q_get (v := .int (s.v 35)) C inX11_term_X11 hK hP 0 rfl rfl 35 (by decide) rfl LX11_term_224 rfl dX11_term_33 ?_
  obtain ⟨g1, hB⟩ := guard_inv hB
  obtain ⟨s2, hs3, hB⟩ := letS_inv hB
  refine q_iast (f2 := (upd (s.f 34) (Int32.toNatClampNeg (s.v 29)) (s.v 35))) (w2 := (mwS cB cI cJ cZ h a s2)) C hK hP hD hS 21 1 rfl rfl (vpb_in g1) dX11_term_36 rfl (mwS_f34 hs3) (fun H locs hP hD hS => ?_)
  refine lv_aload_n hx hb dX11_term_37 rfl (lv_at hl 0 rfl) ?_
  refine lv_dup hx hb dX11_term_38 rfl ?_
  refine q_get (v := .int (s2.v 29)) C inX11_term_X11 hK hP 0 rfl rfl 29 (by decide) rfl LX11_term_221 rfl dX11_term_39 ?_
  refine lv_iconst (v := 1) hx hb dX11_term_42 (by decide) ?_
  refine lv_iadd hx hb dX11_term_43 ?_
  obtain ⟨s4, hs5, hB⟩ := letS_inv hB
  refine q_put (ty := .int) (w2 := (mwS cB cI cJ cZ h a s4)) tyX11 tyX11_ok nmX11 C inX11_term_X11 hK hP hD hS 0 rfl rfl 29 (by decide) rfl LX11_term_221 rfl (by decide +kernel) (rfl) rfl (Nat.le_of_ble_eq_true rfl) dX11_term_44 (mwS_v29 hs5) (fun H locs hP hD hS => ?_)
  exact q_vret C hr hlocks hK hP hD hS (Nat.le_of_ble_eq_true rfl) (Nat.le_of_ble_eq_true rfl) dX11_term_47 (by cases hB; rfl)
set_option maxHeartbeats 4000000 in
set_option maxRecDepth 100000 in
theorem br_term {l : Launch} {dC : Nat → ClassId} {dI : Nat → Nat → Nat} {cB cI cJ cZ cS : ClassId} {h : Nat} {a : Nat → Nat} {as : List Value} {s' : RS} (s : RS) (hB : r_term s = some s') : BlkV l yX11_term wsX11_term ({ frames := 4, cells := 0, slots := 0, locals := 83 }) cX11_term 1 none (dC, dI) (tysA cB cI cJ cZ cS) as 0 (mwS cB cI cJ cZ h a s) [(0, .ref h)] [] (fun u => u = (mwS cB cI cJ cZ h a s')) := by
  intro p e s0 m below meth c A E H locs ls hP hD hS hl
  obtain ⟨C, hr, hlocks, hA, hK, hN⟩ := id E
  obtain ⟨hx, hb, hml, hown, hts⟩ := id C
  unfold r_term at hB
  refine lv_aload_n hx hb dX11_term_0 rfl (lv_at hl 0 rfl) ?_
  refine q_get (v := .ref (a 33)) C inX11_term_X11 hK hP 0 rfl rfl 33 (by decide) rfl LX11_term_77 rfl dX11_term_1 ?_
  refine lv_aload_n hx hb dX11_term_4 rfl (lv_at hl 0 rfl) ?_
  refine q_get (v := .int (s.v 29)) C inX11_term_X11 hK hP 0 rfl rfl 29 (by decide) rfl LX11_term_221 rfl dX11_term_5 ?_
  refine lv_aload_n hx hb dX11_term_8 rfl (lv_at hl 0 rfl) ?_
  refine q_get (v := .int (s.v 35)) C inX11_term_X11 hK hP 0 rfl rfl 35 (by decide) rfl LX11_term_224 rfl dX11_term_9 ?_
  obtain ⟨g1, hB⟩ := guard_inv hB
  obtain ⟨s2, hs3, hB⟩ := letS_inv hB
  refine q_iast (f2 := (upd (s.f 33) (Int32.toNatClampNeg (s.v 29)) (s.v 35))) (w2 := (mwS cB cI cJ cZ h a s2)) C hK hP hD hS 20 1 rfl rfl (vpb_in g1) dX11_term_12 rfl (mwS_f33 hs3) (fun H locs hP hD hS => ?_)
  refine lv_aload_n hx hb dX11_term_13 rfl (lv_at hl 0 rfl) ?_
  refine q_get (v := .int (s2.v 13)) C inX11_term_X11 hK hP 0 rfl rfl 13 (by decide) rfl LX11_term_185 rfl dX11_term_14 ?_
  refine lv_if_ne (tgt := 24) hx hb dX11_term_17 (by decide) (fun c4 => ?_) (fun c4 => ?_)
  · have hB := if_n hB c4
    exact br_term_24 _ hB p e s0 m below meth c A E H locs ls hP hD hS (lv_sub hl [0] rfl)
  · have hB := if_p hB c4
    refine lv_aload_n hx hb dX11_term_20 rfl (lv_at hl 0 rfl) ?_
    obtain ⟨s5, hc, hB⟩ := bindP_inv hB
    refine q_govF (va_runV (As := []) (rest := []) C (cr_expression hc _) (cwV 0 hts gX11_term_X11_expression rfl rfl rfl (by decide +kernel) ⟨Nat.le_of_ble_eq_true rfl, Nat.le_of_ble_eq_true rfl⟩) (q_preV hK hP (ci := 11) (q0 := 0) rfl rfl rfl (q_preF hN hK hP hD)) rfl rfl hl.1 rfl (lv_room (Nat.le_of_ble_eq_true rfl)) dX11_term_21 ⟨Nat.le_of_ble_eq_true rfl, Nat.le_of_ble_eq_true rfl⟩) hD hS hA (fun w1 H locs hw hP hD hS => ?_)
    subst hw
    exact br_term_24 _ hB p e s0 m below meth c A E H locs ls hP hD hS (lv_sub hl [0] rfl)
theorem cr_term {l : Launch} {dC : Nat → ClassId} {dI : Nat → Nat → Nat} {cB cI cJ cZ cS : ClassId} {h : Nat} {a : Nat → Nat} {s' : RS} {s : RS} (hB : r_term s = some s') : CV l yX11_term wsX11_term ({ frames := 4, cells := 0, slots := 0, locals := 83 }) (dC, dI) (tysA cB cI cJ cZ cS) (mwS cB cI cJ cZ h a s) [.ref h] (fun u => u = (mwS cB cI cJ cZ h a s')) :=
  CV_of (cc := cX11_term) (maxL := 1) (ret := none) (by decide) rfl (Nat.le_of_ble_eq_true rfl) (br_term _ hB)
theorem LX11_tellLaw_185 : Cond.fieldLink RX11 185 "GuessFerryModel" "fault" "I" ∈ wsX11_tellLaw := by decide +kernel
theorem LX11_tellLaw_218 : Cond.fieldLink RX11 218 "GuessFerryModel" "side" "I" ∈ wsX11_tellLaw := by decide +kernel
theorem LX11_tellLaw_221 : Cond.fieldLink RX11 221 "GuessFerryModel" "branches" "I" ∈ wsX11_tellLaw := by decide +kernel
theorem LX11_tellLaw_224 : Cond.fieldLink RX11 224 "GuessFerryModel" "codes" "I" ∈ wsX11_tellLaw := by decide +kernel
theorem LX11_tellLaw_61 : Cond.fieldLink RX11 61 "GuessFerryModel" "lawFirst" "[I" ∈ wsX11_tellLaw := by decide +kernel
theorem LX11_tellLaw_64 : Cond.fieldLink RX11 64 "GuessFerryModel" "lawLast" "[I" ∈ wsX11_tellLaw := by decide +kernel
theorem LX11_tellLaw_67 : Cond.fieldLink RX11 67 "GuessFerryModel" "hasTest" "[Z" ∈ wsX11_tellLaw := by decide +kernel
theorem LX11_tellLaw_71 : Cond.fieldLink RX11 71 "GuessFerryModel" "testFrom" "[I" ∈ wsX11_tellLaw := by decide +kernel
theorem LX11_tellLaw_74 : Cond.fieldLink RX11 74 "GuessFerryModel" "testMid" "[I" ∈ wsX11_tellLaw := by decide +kernel
theorem inX11_tellLaw_X11 : ∀ w ∈ u_ws RX11 TX11 58, w ∈ wsX11_tellLaw := by decide +kernel
set_option maxHeartbeats 4000000 in
set_option maxRecDepth 100000 in
theorem br_tellLaw_129 {l : Launch} {dC : Nat → ClassId} {dI : Nat → Nat → Nat} {cB cI cJ cZ cS : ClassId} {h : Nat} {a : Nat → Nat} {as : List Value} {s' : RS} (s : RS) (x1 : Int32) (x2 : Int32) (hB : r_tellLaw_129 s x1 x2 = some s') : BlkV l yX11_tellLaw wsX11_tellLaw ({ frames := 5, cells := 0, slots := 0, locals := 103 }) cX11_tellLaw 4 none (dC, dI) (tysA cB cI cJ cZ cS) as 129 (mwS cB cI cJ cZ h a s) [(0, .ref h), (1, .int x1), (2, .int x2)] [] (fun u => u = (mwS cB cI cJ cZ h a s')) := by
  intro p e s0 m below meth c A E H locs ls hP hD hS hl
  obtain ⟨C, hr, hlocks, hA, hK, hN⟩ := id E
  obtain ⟨hx, hb, hml, hown, hts⟩ := id C
  unfold r_tellLaw_129 at hB
  refine lv_aload_n hx hb dX11_tellLaw_129 rfl (lv_at hl 0 rfl) ?_
  refine q_get (v := .ref (a 30)) C inX11_tellLaw_X11 hK hP 0 rfl rfl 30 (by decide) rfl LX11_tellLaw_67 rfl dX11_tellLaw_130 ?_
  refine lv_aload_n hx hb dX11_tellLaw_133 rfl (lv_at hl 0 rfl) ?_
  refine q_get (v := .int (s.v 29)) C inX11_tellLaw_X11 hK hP 0 rfl rfl 29 (by decide) rfl LX11_tellLaw_221 rfl dX11_tellLaw_134 ?_
  refine lv_iconst (v := 0) hx hb dX11_tellLaw_137 (by decide) ?_
  obtain ⟨g1, hB⟩ := guard_inv hB
  obtain ⟨s2, hs3, hB⟩ := letS_inv hB
  refine q_zast (f2 := (upd (s.f 30) (Int32.toNatClampNeg (s.v 29)) (vp_nar .boolean 0))) (w2 := (mwS cB cI cJ cZ h a s2)) C hK hP hD hS 17 3 rfl rfl (vpb_in g1) dX11_tellLaw_138 rfl (mwS_f30 hs3) (fun H locs hP hD hS => ?_)
  refine lv_aload_n hx hb dX11_tellLaw_139 rfl (lv_at hl 0 rfl) ?_
  obtain ⟨s4, hc, hB⟩ := bindP_inv hB
  refine q_govF (va_runV (As := []) (rest := []) C (cr_term hc _) (cwV 0 hts gX11_tellLaw_X11_term rfl rfl rfl (by decide +kernel) ⟨Nat.le_of_ble_eq_true rfl, Nat.le_of_ble_eq_true rfl⟩) (q_preV hK hP (ci := 11) (q0 := 0) rfl rfl rfl (q_preF hN hK hP hD)) rfl rfl hl.1 rfl (lv_room (Nat.le_of_ble_eq_true rfl)) dX11_tellLaw_140 ⟨Nat.le_of_ble_eq_true rfl, Nat.le_of_ble_eq_true rfl⟩) hD hS hA (fun w1 H locs hw hP hD hS => ?_)
  subst hw
  refine lv_aload_n hx hb dX11_tellLaw_143 rfl (lv_at hl 0 rfl) ?_
  refine lv_iconst (v := 4) hx hb dX11_tellLaw_144 (by decide) ?_
  obtain ⟨s5, hc, hB⟩ := bindP_inv hB
  refine q_govF (va_runV (As := [.int 4]) (rest := []) C (cr_must hc _) (cwV 1 hts gX11_tellLaw_X11_must rfl rfl rfl (by decide +kernel) ⟨Nat.le_of_ble_eq_true rfl, Nat.le_of_ble_eq_true rfl⟩) (q_preV hK hP (ci := 11) (q0 := 0) rfl rfl rfl (q_preF hN hK hP hD)) rfl rfl hl.1 rfl (lv_room (Nat.le_of_ble_eq_true rfl)) dX11_tellLaw_145 ⟨Nat.le_of_ble_eq_true rfl, Nat.le_of_ble_eq_true rfl⟩) hD hS hA (fun w1 H locs hw hP hD hS => ?_)
  subst hw
  refine lv_aload_n hx hb dX11_tellLaw_148 rfl (lv_at hl 0 rfl) ?_
  refine q_get (v := .int (s5.v 13)) C inX11_tellLaw_X11 hK hP 0 rfl rfl 13 (by decide) rfl LX11_tellLaw_185 rfl dX11_tellLaw_149 ?_
  refine lv_if_le (tgt := 156) hx hb dX11_tellLaw_152 (by decide) (fun c6 => ?_) (fun c6 => ?_)
  · have hB := if_p hB c6
    refine lv_aload_n hx hb dX11_tellLaw_156 rfl (lv_at hl 0 rfl) ?_
    refine q_get (v := .ref (a 27)) C inX11_tellLaw_X11 hK hP 0 rfl rfl 27 (by decide) rfl LX11_tellLaw_61 rfl dX11_tellLaw_157 ?_
    refine lv_iconst (v := 4) hx hb dX11_tellLaw_160 (by decide) ?_
    refine lv_aload_n hx hb dX11_tellLaw_161 rfl (lv_at hl 0 rfl) ?_
    refine q_get (v := .int (s5.v 19)) C inX11_tellLaw_X11 hK hP 0 rfl rfl 19 (by decide) rfl LX11_tellLaw_218 rfl dX11_tellLaw_162 ?_
    refine lv_imul hx hb dX11_tellLaw_165 ?_
    refine lv_iload_n hx hb dX11_tellLaw_166 rfl (lv_at hl 1 rfl) ?_
    refine lv_iadd hx hb dX11_tellLaw_167 ?_
    refine lv_iload_n hx hb dX11_tellLaw_168 rfl (lv_at hl 2 rfl) ?_
    obtain ⟨g7, hB⟩ := guard_inv hB
    obtain ⟨s8, hs9, hB⟩ := letS_inv hB
    refine q_iast (f2 := (upd (s5.f 27) (Int32.toNatClampNeg ((4 * (s5.v 19)) + x1)) x2)) (w2 := (mwS cB cI cJ cZ h a s8)) C hK hP hD hS 15 1 rfl rfl (vpb_in g7) dX11_tellLaw_169 rfl (mwS_f27 hs9) (fun H locs hP hD hS => ?_)
    refine lv_aload_n hx hb dX11_tellLaw_170 rfl (lv_at hl 0 rfl) ?_
    refine q_get (v := .ref (a 28)) C inX11_tellLaw_X11 hK hP 0 rfl rfl 28 (by decide) rfl LX11_tellLaw_64 rfl dX11_tellLaw_171 ?_
    refine lv_iconst (v := 4) hx hb dX11_tellLaw_174 (by decide) ?_
    refine lv_aload_n hx hb dX11_tellLaw_175 rfl (lv_at hl 0 rfl) ?_
    refine q_get (v := .int (s8.v 19)) C inX11_tellLaw_X11 hK hP 0 rfl rfl 19 (by decide) rfl LX11_tellLaw_218 rfl dX11_tellLaw_176 ?_
    refine lv_imul hx hb dX11_tellLaw_179 ?_
    refine lv_iload_n hx hb dX11_tellLaw_180 rfl (lv_at hl 1 rfl) ?_
    refine lv_iadd hx hb dX11_tellLaw_181 ?_
    refine lv_aload_n hx hb dX11_tellLaw_182 rfl (lv_at hl 0 rfl) ?_
    refine q_get (v := .int (s8.v 29)) C inX11_tellLaw_X11 hK hP 0 rfl rfl 29 (by decide) rfl LX11_tellLaw_221 rfl dX11_tellLaw_183 ?_
    obtain ⟨g10, hB⟩ := guard_inv hB
    obtain ⟨s11, hs12, hB⟩ := letS_inv hB
    refine q_iast (f2 := (upd (s8.f 28) (Int32.toNatClampNeg ((4 * (s8.v 19)) + x1)) (s8.v 29))) (w2 := (mwS cB cI cJ cZ h a s11)) C hK hP hD hS 16 1 rfl rfl (vpb_in g10) dX11_tellLaw_186 rfl (mwS_f28 hs12) (fun H locs hP hD hS => ?_)
    exact q_vret C hr hlocks hK hP hD hS (Nat.le_of_ble_eq_true rfl) (Nat.le_of_ble_eq_true rfl) dX11_tellLaw_187 (by cases hB; rfl)
  · have hB := if_n hB c6
    exact q_vret C hr hlocks hK hP hD hS (Nat.le_of_ble_eq_true rfl) (Nat.le_of_ble_eq_true rfl) dX11_tellLaw_155 (by cases hB; rfl)
set_option maxHeartbeats 4000000 in
set_option maxRecDepth 100000 in
theorem br_tellLaw_110 {l : Launch} {dC : Nat → ClassId} {dI : Nat → Nat → Nat} {cB cI cJ cZ cS : ClassId} {h : Nat} {a : Nat → Nat} {as : List Value} {s' : RS} {k12 : RS → Int32 → Int32 → Int32 → Option RS} (hk12 : ∀ (s : RS) (x1 : Int32) (x2 : Int32) (x3 : Int32), k12 s x1 x2 x3 = some s' → BlkV l yX11_tellLaw wsX11_tellLaw ({ frames := 5, cells := 0, slots := 0, locals := 103 }) cX11_tellLaw 4 none (dC, dI) (tysA cB cI cJ cZ cS) as 12 (mwS cB cI cJ cZ h a s) [(0, .ref h), (1, .int x1), (2, .int x2), (3, .int x3)] [] (fun u => u = (mwS cB cI cJ cZ h a s'))) (s : RS) (x1 : Int32) (x2 : Int32) (x3 : Int32) (hB : r_tellLaw_110 k12 s x1 x2 x3 = some s') : BlkV l yX11_tellLaw wsX11_tellLaw ({ frames := 5, cells := 0, slots := 0, locals := 103 }) cX11_tellLaw 4 none (dC, dI) (tysA cB cI cJ cZ cS) as 110 (mwS cB cI cJ cZ h a s) [(0, .ref h), (1, .int x1), (2, .int x2), (3, .int x3)] [] (fun u => u = (mwS cB cI cJ cZ h a s')) := by
  intro p e s0 m below meth c A E H locs ls hP hD hS hl
  obtain ⟨C, hr, hlocks, hA, hK, hN⟩ := id E
  obtain ⟨hx, hb, hml, hown, hts⟩ := id C
  unfold r_tellLaw_110 at hB
  refine lv_aload_n hx hb dX11_tellLaw_110 rfl (lv_at hl 0 rfl) ?_
  refine lv_bipush (v := 28) hx hb dX11_tellLaw_111 (by decide) ?_
  obtain ⟨s1, hc, hB⟩ := bindP_inv hB
  refine q_govF (va_runV (As := [.int 28]) (rest := []) C (cr_must hc _) (cwV 1 hts gX11_tellLaw_X11_must rfl rfl rfl (by decide +kernel) ⟨Nat.le_of_ble_eq_true rfl, Nat.le_of_ble_eq_true rfl⟩) (q_preV hK hP (ci := 11) (q0 := 0) rfl rfl rfl (q_preF hN hK hP hD)) rfl rfl hl.1 rfl (lv_room (Nat.le_of_ble_eq_true rfl)) dX11_tellLaw_113 ⟨Nat.le_of_ble_eq_true rfl, Nat.le_of_ble_eq_true rfl⟩) hD hS hA (fun w1 H locs hw hP hD hS => ?_)
  subst hw
  refine lv_aload_n hx hb dX11_tellLaw_116 rfl (lv_at hl 0 rfl) ?_
  obtain ⟨s2, hc, hB⟩ := bindP_inv hB
  refine q_govF (va_runV (As := []) (rest := []) C (cr_term hc _) (cwV 0 hts gX11_tellLaw_X11_term rfl rfl rfl (by decide +kernel) ⟨Nat.le_of_ble_eq_true rfl, Nat.le_of_ble_eq_true rfl⟩) (q_preV hK hP (ci := 11) (q0 := 0) rfl rfl rfl (q_preF hN hK hP hD)) rfl rfl hl.1 rfl (lv_room (Nat.le_of_ble_eq_true rfl)) dX11_tellLaw_117 ⟨Nat.le_of_ble_eq_true rfl, Nat.le_of_ble_eq_true rfl⟩) hD hS hA (fun w1 H locs hw hP hD hS => ?_)
  subst hw
  refine lv_aload_n hx hb dX11_tellLaw_120 rfl (lv_at hl 0 rfl) ?_
  refine lv_bipush (v := 29) hx hb dX11_tellLaw_121 (by decide) ?_
  obtain ⟨s3, hc, hB⟩ := bindP_inv hB
  refine q_govF (va_runV (As := [.int 29]) (rest := []) C (cr_must hc _) (cwV 1 hts gX11_tellLaw_X11_must rfl rfl rfl (by decide +kernel) ⟨Nat.le_of_ble_eq_true rfl, Nat.le_of_ble_eq_true rfl⟩) (q_preV hK hP (ci := 11) (q0 := 0) rfl rfl rfl (q_preF hN hK hP hD)) rfl rfl hl.1 rfl (lv_room (Nat.le_of_ble_eq_true rfl)) dX11_tellLaw_123 ⟨Nat.le_of_ble_eq_true rfl, Nat.le_of_ble_eq_true rfl⟩) hD hS hA (fun w1 H locs hw hP hD hS => ?_)
  subst hw
  refine lv_goto (tgt := 12) hx hb dX11_tellLaw_126 (by decide) ?_
  exact hk12 _ _ _ _ hB p e s0 m below meth c A E H locs ls hP hD hS (lv_sub hl [0, 1, 2, 3] rfl)
set_option maxHeartbeats 4000000 in
set_option maxRecDepth 100000 in
theorem br_tellLaw_38 {l : Launch} {dC : Nat → ClassId} {dI : Nat → Nat → Nat} {cB cI cJ cZ cS : ClassId} {h : Nat} {a : Nat → Nat} {as : List Value} {s' : RS} {k12 : RS → Int32 → Int32 → Int32 → Option RS} (hk12 : ∀ (s : RS) (x1 : Int32) (x2 : Int32) (x3 : Int32), k12 s x1 x2 x3 = some s' → BlkV l yX11_tellLaw wsX11_tellLaw ({ frames := 5, cells := 0, slots := 0, locals := 103 }) cX11_tellLaw 4 none (dC, dI) (tysA cB cI cJ cZ cS) as 12 (mwS cB cI cJ cZ h a s) [(0, .ref h), (1, .int x1), (2, .int x2), (3, .int x3)] [] (fun u => u = (mwS cB cI cJ cZ h a s'))) (s : RS) (x1 : Int32) (x2 : Int32) (x3 : Int32) (hB : r_tellLaw_38 k12 s x1 x2 x3 = some s') : BlkV l yX11_tellLaw wsX11_tellLaw ({ frames := 5, cells := 0, slots := 0, locals := 103 }) cX11_tellLaw 4 none (dC, dI) (tysA cB cI cJ cZ cS) as 38 (mwS cB cI cJ cZ h a s) [(0, .ref h), (1, .int x1), (2, .int x2), (3, .int x3)] [] (fun u => u = (mwS cB cI cJ cZ h a s')) := by
  intro p e s0 m below meth c A E H locs ls hP hD hS hl
  obtain ⟨C, hr, hlocks, hA, hK, hN⟩ := id E
  obtain ⟨hx, hb, hml, hown, hts⟩ := id C
  unfold r_tellLaw_38 at hB
  refine lv_aload_n hx hb dX11_tellLaw_38 rfl (lv_at hl 0 rfl) ?_
  refine q_get (v := .int (s.v 13)) C inX11_tellLaw_X11 hK hP 0 rfl rfl 13 (by decide) rfl LX11_tellLaw_185 rfl dX11_tellLaw_39 ?_
  refine lv_if_le (tgt := 46) hx hb dX11_tellLaw_42 (by decide) (fun c1 => ?_) (fun c1 => ?_)
  · have hB := if_p hB c1
    refine lv_iinc (v := (x3 + 1)) (lv' := [(3, .int (x3 + 1)), (0, .ref h), (1, .int x1), (2, .int x2)]) hx hb dX11_tellLaw_46 hl (k := 3) rfl (rfl) (by decide) rfl (fun ls hl => ?_)
    refine lv_aload_n hx hb dX11_tellLaw_49 rfl (lv_at hl 1 rfl) ?_
    obtain ⟨s2, hc, hB⟩ := bindP_inv hB
    refine q_govF (va_runV (As := []) (rest := []) C (cr_goesOn hc _) (cwV 0 hts gX11_tellLaw_X11_goesOn rfl rfl rfl (by decide +kernel) ⟨Nat.le_of_ble_eq_true rfl, Nat.le_of_ble_eq_true rfl⟩) (q_preV hK hP (ci := 11) (q0 := 0) rfl rfl rfl (q_preF hN hK hP hD)) rfl rfl hl.1 rfl (lv_room (Nat.le_of_ble_eq_true rfl)) dX11_tellLaw_50 ⟨Nat.le_of_ble_eq_true rfl, Nat.le_of_ble_eq_true rfl⟩) hD hS hA (fun w1 H locs hw hP hD hS => ?_)
    subst hw
    refine lv_aload_n hx hb dX11_tellLaw_53 rfl (lv_at hl 1 rfl) ?_
    refine q_get (v := .ref (a 30)) C inX11_tellLaw_X11 hK hP 0 rfl rfl 30 (by decide) rfl LX11_tellLaw_67 rfl dX11_tellLaw_54 ?_
    refine lv_aload_n hx hb dX11_tellLaw_57 rfl (lv_at hl 1 rfl) ?_
    refine q_get (v := .int (s2.v 29)) C inX11_tellLaw_X11 hK hP 0 rfl rfl 29 (by decide) rfl LX11_tellLaw_221 rfl dX11_tellLaw_58 ?_
    refine lv_iconst (v := 1) hx hb dX11_tellLaw_61 (by decide) ?_
    obtain ⟨g3, hB⟩ := guard_inv hB
    obtain ⟨s4, hs5, hB⟩ := letS_inv hB
    refine q_zast (f2 := (upd (s2.f 30) (Int32.toNatClampNeg (s2.v 29)) (vp_nar .boolean 1))) (w2 := (mwS cB cI cJ cZ h a s4)) C hK hP hD hS 17 3 rfl rfl (vpb_in g3) dX11_tellLaw_62 rfl (mwS_f30 hs5) (fun H locs hP hD hS => ?_)
    refine lv_aload_n hx hb dX11_tellLaw_63 rfl (lv_at hl 1 rfl) ?_
    refine q_get (v := .ref (a 31)) C inX11_tellLaw_X11 hK hP 0 rfl rfl 31 (by decide) rfl LX11_tellLaw_71 rfl dX11_tellLaw_64 ?_
    refine lv_aload_n hx hb dX11_tellLaw_67 rfl (lv_at hl 1 rfl) ?_
    refine q_get (v := .int (s4.v 29)) C inX11_tellLaw_X11 hK hP 0 rfl rfl 29 (by decide) rfl LX11_tellLaw_221 rfl dX11_tellLaw_68 ?_
    refine lv_aload_n hx hb dX11_tellLaw_71 rfl (lv_at hl 1 rfl) ?_
    refine q_get (v := .int (s4.v 35)) C inX11_tellLaw_X11 hK hP 0 rfl rfl 35 (by decide) rfl LX11_tellLaw_224 rfl dX11_tellLaw_72 ?_
    obtain ⟨g6, hB⟩ := guard_inv hB
    obtain ⟨s7, hs8, hB⟩ := letS_inv hB
    refine q_iast (f2 := (upd (s4.f 31) (Int32.toNatClampNeg (s4.v 29)) (s4.v 35))) (w2 := (mwS cB cI cJ cZ h a s7)) C hK hP hD hS 18 1 rfl rfl (vpb_in g6) dX11_tellLaw_75 rfl (mwS_f31 hs8) (fun H locs hP hD hS => ?_)
    refine lv_aload_n hx hb dX11_tellLaw_76 rfl (lv_at hl 1 rfl) ?_
    obtain ⟨s9, hc, hB⟩ := bindP_inv hB
    refine q_govF (va_runV (As := []) (rest := []) C (cr_expression hc _) (cwV 0 hts gX11_tellLaw_X11_expression rfl rfl rfl (by decide +kernel) ⟨Nat.le_of_ble_eq_true rfl, Nat.le_of_ble_eq_true rfl⟩) (q_preV hK hP (ci := 11) (q0 := 0) rfl rfl rfl (q_preF hN hK hP hD)) rfl rfl hl.1 rfl (lv_room (Nat.le_of_ble_eq_true rfl)) dX11_tellLaw_77 ⟨Nat.le_of_ble_eq_true rfl, Nat.le_of_ble_eq_true rfl⟩) hD hS hA (fun w1 H locs hw hP hD hS => ?_)
    subst hw
    refine lv_aload_n hx hb dX11_tellLaw_80 rfl (lv_at hl 1 rfl) ?_
    refine lv_bipush (v := 13) hx hb dX11_tellLaw_81 (by decide) ?_
    obtain ⟨s10, hc, hB⟩ := bindP_inv hB
    refine q_govF (va_runV (As := [.int 13]) (rest := []) C (cr_must hc _) (cwV 1 hts gX11_tellLaw_X11_must rfl rfl rfl (by decide +kernel) ⟨Nat.le_of_ble_eq_true rfl, Nat.le_of_ble_eq_true rfl⟩) (q_preV hK hP (ci := 11) (q0 := 0) rfl rfl rfl (q_preF hN hK hP hD)) rfl rfl hl.1 rfl (lv_room (Nat.le_of_ble_eq_true rfl)) dX11_tellLaw_83 ⟨Nat.le_of_ble_eq_true rfl, Nat.le_of_ble_eq_true rfl⟩) hD hS hA (fun w1 H locs hw hP hD hS => ?_)
    subst hw
    refine lv_aload_n hx hb dX11_tellLaw_86 rfl (lv_at hl 1 rfl) ?_
    refine q_get (v := .ref (a 32)) C inX11_tellLaw_X11 hK hP 0 rfl rfl 32 (by decide) rfl LX11_tellLaw_74 rfl dX11_tellLaw_87 ?_
    refine lv_aload_n hx hb dX11_tellLaw_90 rfl (lv_at hl 1 rfl) ?_
    refine q_get (v := .int (s10.v 29)) C inX11_tellLaw_X11 hK hP 0 rfl rfl 29 (by decide) rfl LX11_tellLaw_221 rfl dX11_tellLaw_91 ?_
    refine lv_aload_n hx hb dX11_tellLaw_94 rfl (lv_at hl 1 rfl) ?_
    refine q_get (v := .int (s10.v 35)) C inX11_tellLaw_X11 hK hP 0 rfl rfl 35 (by decide) rfl LX11_tellLaw_224 rfl dX11_tellLaw_95 ?_
    obtain ⟨g11, hB⟩ := guard_inv hB
    obtain ⟨s12, hs13, hB⟩ := letS_inv hB
    refine q_iast (f2 := (upd (s10.f 32) (Int32.toNatClampNeg (s10.v 29)) (s10.v 35))) (w2 := (mwS cB cI cJ cZ h a s12)) C hK hP hD hS 19 1 rfl rfl (vpb_in g11) dX11_tellLaw_98 rfl (mwS_f32 hs13) (fun H locs hP hD hS => ?_)
    refine lv_aload_n hx hb dX11_tellLaw_99 rfl (lv_at hl 1 rfl) ?_
    refine q_get (v := .int (s12.v 13)) C inX11_tellLaw_X11 hK hP 0 rfl rfl 13 (by decide) rfl LX11_tellLaw_185 rfl dX11_tellLaw_100 ?_
    refine lv_if_ne (tgt := 110) hx hb dX11_tellLaw_103 (by decide) (fun c14 => ?_) (fun c14 => ?_)
    · have hB := if_n hB c14
      exact br_tellLaw_110 (hk12) _ _ _ _ hB p e s0 m below meth c A E H locs ls hP hD hS (lv_sub hl [1, 2, 3, 0] rfl)
    · have hB := if_p hB c14
      refine lv_aload_n hx hb dX11_tellLaw_106 rfl (lv_at hl 1 rfl) ?_
      obtain ⟨s15, hc, hB⟩ := bindP_inv hB
      refine q_govF (va_runV (As := []) (rest := []) C (cr_expression hc _) (cwV 0 hts gX11_tellLaw_X11_expression rfl rfl rfl (by decide +kernel) ⟨Nat.le_of_ble_eq_true rfl, Nat.le_of_ble_eq_true rfl⟩) (q_preV hK hP (ci := 11) (q0 := 0) rfl rfl rfl (q_preF hN hK hP hD)) rfl rfl hl.1 rfl (lv_room (Nat.le_of_ble_eq_true rfl)) dX11_tellLaw_107 ⟨Nat.le_of_ble_eq_true rfl, Nat.le_of_ble_eq_true rfl⟩) hD hS hA (fun w1 H locs hw hP hD hS => ?_)
      subst hw
      exact br_tellLaw_110 (hk12) _ _ _ _ hB p e s0 m below meth c A E H locs ls hP hD hS (lv_sub hl [1, 2, 3, 0] rfl)
  · have hB := if_n hB c1
    exact q_vret C hr hlocks hK hP hD hS (Nat.le_of_ble_eq_true rfl) (Nat.le_of_ble_eq_true rfl) dX11_tellLaw_45 (by cases hB; rfl)
set_option maxHeartbeats 4000000 in
set_option maxRecDepth 100000 in
theorem br_tellLaw_12 {l : Launch} {dC : Nat → ClassId} {dI : Nat → Nat → Nat} {cB cI cJ cZ cS : ClassId} {h : Nat} {a : Nat → Nat} {as : List Value} {s' : RS} {k12 : RS → Int32 → Int32 → Int32 → Option RS} (hk12 : ∀ (s : RS) (x1 : Int32) (x2 : Int32) (x3 : Int32), k12 s x1 x2 x3 = some s' → BlkV l yX11_tellLaw wsX11_tellLaw ({ frames := 5, cells := 0, slots := 0, locals := 103 }) cX11_tellLaw 4 none (dC, dI) (tysA cB cI cJ cZ cS) as 12 (mwS cB cI cJ cZ h a s) [(0, .ref h), (1, .int x1), (2, .int x2), (3, .int x3)] [] (fun u => u = (mwS cB cI cJ cZ h a s'))) (s : RS) (x1 : Int32) (x2 : Int32) (x3 : Int32) (hB : r_tellLaw_12 k12 s x1 x2 x3 = some s') : BlkV l yX11_tellLaw wsX11_tellLaw ({ frames := 5, cells := 0, slots := 0, locals := 103 }) cX11_tellLaw 4 none (dC, dI) (tysA cB cI cJ cZ cS) as 12 (mwS cB cI cJ cZ h a s) [(0, .ref h), (1, .int x1), (2, .int x2), (3, .int x3)] [] (fun u => u = (mwS cB cI cJ cZ h a s')) := by
  intro p e s0 m below meth c A E H locs ls hP hD hS hl
  obtain ⟨C, hr, hlocks, hA, hK, hN⟩ := id E
  obtain ⟨hx, hb, hml, hown, hts⟩ := id C
  unfold r_tellLaw_12 at hB
  refine lv_aload_n hx hb dX11_tellLaw_12 rfl (lv_at hl 0 rfl) ?_
  refine q_get (v := .int (s.v 13)) C inX11_tellLaw_X11 hK hP 0 rfl rfl 13 (by decide) rfl LX11_tellLaw_185 rfl dX11_tellLaw_13 ?_
  refine lv_if_ne (tgt := 129) hx hb dX11_tellLaw_16 (by decide) (fun c1 => ?_) (fun c1 => ?_)
  · have hB := if_n hB c1
    exact br_tellLaw_129 _ _ _ hB p e s0 m below meth c A E H locs ls hP hD hS (lv_sub hl [0, 1, 2] rfl)
  · have hB := if_p hB c1
    refine lv_aload_n hx hb dX11_tellLaw_19 rfl (lv_at hl 0 rfl) ?_
    refine lv_bipush (v := 27) hx hb dX11_tellLaw_20 (by decide) ?_
    obtain ⟨q_, s2, hc, hB⟩ := bindI_inv hB
    refine q_goiF (va_runV (As := [.int 27]) (rest := []) C (cr_is hc _) (cwV 1 hts gX11_tellLaw_X11_is rfl rfl rfl (by decide +kernel) ⟨Nat.le_of_ble_eq_true rfl, Nat.le_of_ble_eq_true rfl⟩) (q_preV hK hP (ci := 11) (q0 := 0) rfl rfl rfl (q_preF hN hK hP hD)) rfl rfl hl.1 rfl (lv_room (Nat.le_of_ble_eq_true rfl)) dX11_tellLaw_22 ⟨Nat.le_of_ble_eq_true rfl, Nat.le_of_ble_eq_true rfl⟩) hD hS hA (fun r3 w1 H locs hw hP hD hS => ?_)
    obtain ⟨hq_, hw⟩ := hw; subst hw; subst hq_
    refine lv_if_eq (tgt := 129) hx hb dX11_tellLaw_25 (by decide) (fun c4 => ?_) (fun c4 => ?_)
    · have hB := if_p hB c4
      exact br_tellLaw_129 _ _ _ hB p e s0 m below meth c A E H locs ls hP hD hS (lv_sub hl [0, 1, 2] rfl)
    · have hB := if_n hB c4
      refine lv_iload_n hx hb dX11_tellLaw_28 rfl (lv_at hl 3 rfl) ?_
      refine lv_iconst (v := 4) hx hb dX11_tellLaw_29 (by decide) ?_
      refine lv_icmp_ne (tgt := 38) hx hb dX11_tellLaw_30 (by decide) (fun c5 => ?_) (fun c5 => ?_)
      · have hB := if_n hB c5
        exact br_tellLaw_38 (hk12) _ _ _ _ hB p e s0 m below meth c A E H locs ls hP hD hS (lv_sub hl [0, 1, 2, 3] rfl)
      · have hB := if_p hB c5
        refine lv_aload_n hx hb dX11_tellLaw_33 rfl (lv_at hl 0 rfl) ?_
        refine lv_iconst (v := 2) hx hb dX11_tellLaw_34 (by decide) ?_
        obtain ⟨s6, hc, hB⟩ := bindP_inv hB
        refine q_govF (va_runV (As := [.int 2]) (rest := []) C (cr_fail hc _) (cwV 1 hts gX11_tellLaw_X11_fail rfl rfl rfl (by decide +kernel) ⟨Nat.le_of_ble_eq_true rfl, Nat.le_of_ble_eq_true rfl⟩) (q_preV hK hP (ci := 11) (q0 := 0) rfl rfl rfl (q_preF hN hK hP hD)) rfl rfl hl.1 rfl (lv_room (Nat.le_of_ble_eq_true rfl)) dX11_tellLaw_35 ⟨Nat.le_of_ble_eq_true rfl, Nat.le_of_ble_eq_true rfl⟩) hD hS hA (fun w1 H locs hw hP hD hS => ?_)
        subst hw
        exact br_tellLaw_38 (hk12) _ _ _ _ hB p e s0 m below meth c A E H locs ls hP hD hS (lv_sub hl [0, 1, 2, 3] rfl)
theorem br_tellLaw_12L {l : Launch} {dC : Nat → ClassId} {dI : Nat → Nat → Nat} {cB cI cJ cZ cS : ClassId} {h : Nat} {a : Nat → Nat} {as : List Value} {s' : RS} : ∀ (n : Nat) (s : RS) (x1 : Int32) (x2 : Int32) (x3 : Int32), r_tellLaw_12L n s x1 x2 x3 = some s' → BlkV l yX11_tellLaw wsX11_tellLaw ({ frames := 5, cells := 0, slots := 0, locals := 103 }) cX11_tellLaw 4 none (dC, dI) (tysA cB cI cJ cZ cS) as 12 (mwS cB cI cJ cZ h a s) [(0, .ref h), (1, .int x1), (2, .int x2), (3, .int x3)] [] (fun u => u = (mwS cB cI cJ cZ h a s')) := by
  intro n
  induction n with
  | zero => intro s x1 x2 x3 hB; exact none_ne hB
  | succ n ih => intro s x1 x2 x3 hB; exact br_tellLaw_12 ih _ _ _ _ hB
set_option maxHeartbeats 4000000 in
set_option maxRecDepth 100000 in
theorem br_tellLaw {l : Launch} {dC : Nat → ClassId} {dI : Nat → Nat → Nat} {cB cI cJ cZ cS : ClassId} {h : Nat} {a : Nat → Nat} {as : List Value} {s' : RS} (s : RS) (x1 : Int32) (hB : r_tellLaw s x1 = some s') : BlkV l yX11_tellLaw wsX11_tellLaw ({ frames := 5, cells := 0, slots := 0, locals := 103 }) cX11_tellLaw 4 none (dC, dI) (tysA cB cI cJ cZ cS) as 0 (mwS cB cI cJ cZ h a s) [(0, .ref h), (1, .int x1)] [] (fun u => u = (mwS cB cI cJ cZ h a s')) := by
  intro p e s0 m below meth c A E H locs ls hP hD hS hl
  obtain ⟨C, hr, hlocks, hA, hK, hN⟩ := id E
  obtain ⟨hx, hb, hml, hown, hts⟩ := id C
  unfold r_tellLaw at hB
  refine lv_aload_n hx hb dX11_tellLaw_0 rfl (lv_at hl 0 rfl) ?_
  refine lv_iconst (v := 5) hx hb dX11_tellLaw_1 (by decide) ?_
  obtain ⟨s1, hc, hB⟩ := bindP_inv hB
  refine q_govF (va_runV (As := [.int 5]) (rest := []) C (cr_must hc _) (cwV 1 hts gX11_tellLaw_X11_must rfl rfl rfl (by decide +kernel) ⟨Nat.le_of_ble_eq_true rfl, Nat.le_of_ble_eq_true rfl⟩) (q_preV hK hP (ci := 11) (q0 := 0) rfl rfl rfl (q_preF hN hK hP hD)) rfl rfl hl.1 rfl (lv_room (Nat.le_of_ble_eq_true rfl)) dX11_tellLaw_2 ⟨Nat.le_of_ble_eq_true rfl, Nat.le_of_ble_eq_true rfl⟩) hD hS hA (fun w1 H locs hw hP hD hS => ?_)
  subst hw
  refine lv_aload_n hx hb dX11_tellLaw_5 rfl (lv_at hl 0 rfl) ?_
  refine q_get (v := .int (s1.v 29)) C inX11_tellLaw_X11 hK hP 0 rfl rfl 29 (by decide) rfl LX11_tellLaw_221 rfl dX11_tellLaw_6 ?_
  refine lv_istore_n (lv' := [(2, .int (s1.v 29)), (0, .ref h), (1, .int x1)]) hx hb dX11_tellLaw_9 rfl hl (by decide) rfl (fun ls hl => ?_)
  refine lv_iconst (v := 0) hx hb dX11_tellLaw_10 (by decide) ?_
  refine lv_istore_n (lv' := [(3, .int 0), (2, .int (s1.v 29)), (0, .ref h), (1, .int x1)]) hx hb dX11_tellLaw_11 rfl hl (by decide) rfl (fun ls hl => ?_)
  exact br_tellLaw_12L fu _ _ _ _ hB p e s0 m below meth c A E H locs ls hP hD hS (lv_sub hl [2, 3, 1, 0] rfl)
theorem cr_tellLaw {l : Launch} {dC : Nat → ClassId} {dI : Nat → Nat → Nat} {cB cI cJ cZ cS : ClassId} {h : Nat} {a : Nat → Nat} {s' : RS} {s : RS} {x1 : Int32} (hB : r_tellLaw s x1 = some s') : CV l yX11_tellLaw wsX11_tellLaw ({ frames := 5, cells := 0, slots := 0, locals := 103 }) (dC, dI) (tysA cB cI cJ cZ cS) (mwS cB cI cJ cZ h a s) [.ref h, .int x1] (fun u => u = (mwS cB cI cJ cZ h a s')) :=
  CV_of (cc := cX11_tellLaw) (maxL := 4) (ret := none) (by decide) rfl (Nat.le_of_ble_eq_true rfl) (br_tellLaw _ _ hB)
theorem LX11_tellOne_185 : Cond.fieldLink RX11 185 "GuessFerryModel" "fault" "I" ∈ wsX11_tellOne := by decide +kernel
theorem LX11_tellOne_188 : Cond.fieldLink RX11 188 "GuessFerryModel" "t" "I" ∈ wsX11_tellOne := by decide +kernel
theorem LX11_tellOne_20 : Cond.fieldLink RX11 20 "GuessFerryModel" "tKind" "[I" ∈ wsX11_tellOne := by decide +kernel
theorem LX11_tellOne_218 : Cond.fieldLink RX11 218 "GuessFerryModel" "side" "I" ∈ wsX11_tellOne := by decide +kernel
theorem LX11_tellOne_40 : Cond.fieldLink RX11 40 "GuessFerryModel" "waves" "[I" ∈ wsX11_tellOne := by decide +kernel
theorem LX11_tellOne_49 : Cond.fieldLink RX11 49 "GuessFerryModel" "parties" "[I" ∈ wsX11_tellOne := by decide +kernel
theorem LX11_tellOne_58 : Cond.fieldLink RX11 58 "GuessFerryModel" "seed" "[I" ∈ wsX11_tellOne := by decide +kernel
theorem inX11_tellOne_X11 : ∀ w ∈ u_ws RX11 TX11 58, w ∈ wsX11_tellOne := by decide +kernel
set_option maxHeartbeats 4000000 in
set_option maxRecDepth 100000 in
theorem br_tellOne_165 {l : Launch} {dC : Nat → ClassId} {dI : Nat → Nat → Nat} {cB cI cJ cZ cS : ClassId} {h : Nat} {a : Nat → Nat} {as : List Value} {s' : RS} (s : RS) (x1 : Int32) (hB : r_tellOne_165 s x1 = some s') : BlkV l yX11_tellOne wsX11_tellOne ({ frames := 6, cells := 0, slots := 0, locals := 126 }) cX11_tellOne 2 none (dC, dI) (tysA cB cI cJ cZ cS) as 165 (mwS cB cI cJ cZ h a s) [(0, .ref h), (1, .int x1)] [] (fun u => u = (mwS cB cI cJ cZ h a s')) := by
  intro p e s0 m below meth c A E H locs ls hP hD hS hl
  obtain ⟨C, hr, hlocks, hA, hK, hN⟩ := id E
  obtain ⟨hx, hb, hml, hown, hts⟩ := id C
  unfold r_tellOne_165 at hB
  refine lv_aload_n hx hb dX11_tellOne_165 rfl (lv_at hl 0 rfl) ?_
  refine q_get (v := .int (s.v 13)) C inX11_tellOne_X11 hK hP 0 rfl rfl 13 (by decide) rfl LX11_tellOne_185 rfl dX11_tellOne_166 ?_
  refine lv_if_le (tgt := 173) hx hb dX11_tellOne_169 (by decide) (fun c1 => ?_) (fun c1 => ?_)
  · have hB := if_p hB c1
    refine lv_aload_n hx hb dX11_tellOne_173 rfl (lv_at hl 0 rfl) ?_
    obtain ⟨s2, hc, hB⟩ := bindP_inv hB
    refine q_govF (va_runV (As := []) (rest := []) C (cr_goesOn hc _) (cwV 0 hts gX11_tellOne_X11_goesOn rfl rfl rfl (by decide +kernel) ⟨Nat.le_of_ble_eq_true rfl, Nat.le_of_ble_eq_true rfl⟩) (q_preV hK hP (ci := 11) (q0 := 0) rfl rfl rfl (q_preF hN hK hP hD)) rfl rfl hl.1 rfl (lv_room (Nat.le_of_ble_eq_true rfl)) dX11_tellOne_174 ⟨Nat.le_of_ble_eq_true rfl, Nat.le_of_ble_eq_true rfl⟩) hD hS hA (fun w1 H locs hw hP hD hS => ?_)
    subst hw
    refine lv_aload_n hx hb dX11_tellOne_177 rfl (lv_at hl 0 rfl) ?_
    refine lv_iload_n hx hb dX11_tellOne_178 rfl (lv_at hl 1 rfl) ?_
    obtain ⟨s3, hc, hB⟩ := bindP_inv hB
    refine q_govF (va_runV (As := [.int x1]) (rest := []) C (cr_tellLaw hc _) (cwV 1 hts gX11_tellOne_X11_tellLaw rfl rfl rfl (by decide +kernel) ⟨Nat.le_of_ble_eq_true rfl, Nat.le_of_ble_eq_true rfl⟩) (q_preV hK hP (ci := 11) (q0 := 0) rfl rfl rfl (q_preF hN hK hP hD)) rfl rfl hl.1 rfl (lv_room (Nat.le_of_ble_eq_true rfl)) dX11_tellOne_179 ⟨Nat.le_of_ble_eq_true rfl, Nat.le_of_ble_eq_true rfl⟩) hD hS hA (fun w1 H locs hw hP hD hS => ?_)
    subst hw
    exact q_vret C hr hlocks hK hP hD hS (Nat.le_of_ble_eq_true rfl) (Nat.le_of_ble_eq_true rfl) dX11_tellOne_182 (by cases hB; rfl)
  · have hB := if_n hB c1
    exact q_vret C hr hlocks hK hP hD hS (Nat.le_of_ble_eq_true rfl) (Nat.le_of_ble_eq_true rfl) dX11_tellOne_172 (by cases hB; rfl)
set_option maxHeartbeats 4000000 in
set_option maxRecDepth 100000 in
theorem br_tellOne_160 {l : Launch} {dC : Nat → ClassId} {dI : Nat → Nat → Nat} {cB cI cJ cZ cS : ClassId} {h : Nat} {a : Nat → Nat} {as : List Value} {s' : RS} (s : RS) (x1 : Int32) (hB : r_tellOne_160 s x1 = some s') : BlkV l yX11_tellOne wsX11_tellOne ({ frames := 6, cells := 0, slots := 0, locals := 126 }) cX11_tellOne 2 none (dC, dI) (tysA cB cI cJ cZ cS) as 160 (mwS cB cI cJ cZ h a s) [(0, .ref h), (1, .int x1)] [] (fun u => u = (mwS cB cI cJ cZ h a s')) := by
  intro p e s0 m below meth c A E H locs ls hP hD hS hl
  obtain ⟨C, hr, hlocks, hA, hK, hN⟩ := id E
  obtain ⟨hx, hb, hml, hown, hts⟩ := id C
  unfold r_tellOne_160 at hB
  refine lv_aload_n hx hb dX11_tellOne_160 rfl (lv_at hl 0 rfl) ?_
  refine lv_iconst (v := 1) hx hb dX11_tellOne_161 (by decide) ?_
  obtain ⟨s1, hc, hB⟩ := bindP_inv hB
  refine q_govF (va_runV (As := [.int 1]) (rest := []) C (cr_fail hc _) (cwV 1 hts gX11_tellOne_X11_fail rfl rfl rfl (by decide +kernel) ⟨Nat.le_of_ble_eq_true rfl, Nat.le_of_ble_eq_true rfl⟩) (q_preV hK hP (ci := 11) (q0 := 0) rfl rfl rfl (q_preF hN hK hP hD)) rfl rfl hl.1 rfl (lv_room (Nat.le_of_ble_eq_true rfl)) dX11_tellOne_162 ⟨Nat.le_of_ble_eq_true rfl, Nat.le_of_ble_eq_true rfl⟩) hD hS hA (fun w1 H locs hw hP hD hS => ?_)
  subst hw
  exact br_tellOne_165 _ _ hB p e s0 m below meth c A E H locs ls hP hD hS (lv_sub hl [0, 1] rfl)
set_option maxHeartbeats 4000000 in
set_option maxRecDepth 100000 in
theorem br_tellOne {l : Launch} {dC : Nat → ClassId} {dI : Nat → Nat → Nat} {cB cI cJ cZ cS : ClassId} {h : Nat} {a : Nat → Nat} {as : List Value} {s' : RS} (s : RS) (hB : r_tellOne s = some s') : BlkV l yX11_tellOne wsX11_tellOne ({ frames := 6, cells := 0, slots := 0, locals := 126 }) cX11_tellOne 2 none (dC, dI) (tysA cB cI cJ cZ cS) as 0 (mwS cB cI cJ cZ h a s) [(0, .ref h)] [] (fun u => u = (mwS cB cI cJ cZ h a s')) := by
  intro p e s0 m below meth c A E H locs ls hP hD hS hl
  obtain ⟨C, hr, hlocks, hA, hK, hN⟩ := id E
  obtain ⟨hx, hb, hml, hown, hts⟩ := id C
  unfold r_tellOne at hB
  refine lv_aload_n hx hb dX11_tellOne_0 rfl (lv_at hl 0 rfl) ?_
  refine q_get (v := .ref (a 5)) C inX11_tellOne_X11 hK hP 0 rfl rfl 5 (by decide) rfl LX11_tellOne_20 rfl dX11_tellOne_1 ?_
  refine lv_aload_n hx hb dX11_tellOne_4 rfl (lv_at hl 0 rfl) ?_
  refine q_get (v := .int (s.v 11)) C inX11_tellOne_X11 hK hP 0 rfl rfl 11 (by decide) rfl LX11_tellOne_188 rfl dX11_tellOne_5 ?_
  obtain ⟨g1, hB⟩ := guard_inv hB
  refine q_iald (x := (s.f 5 (Int32.toNatClampNeg (s.v 11)))) C hK hP 3 1 rfl rfl (vpb_in g1) dX11_tellOne_8 rfl ?_
  by_cases e2 : (s.f 5 (Int32.toNatClampNeg (s.v 11))) = 20
  · have hB := if_p hB e2
    refine q_top (y := 20) e2 ?_
    refine lv_lookup (off := 35) (tgt := 44) hx hb dX11_tellOne_9 (by decide +kernel) (by decide +kernel) (by decide) ?_
    refine lv_aload_n hx hb dX11_tellOne_44 rfl (lv_at hl 0 rfl) ?_
    refine lv_aload_n hx hb dX11_tellOne_45 rfl (lv_at hl 0 rfl) ?_
    refine q_get (v := .ref (a 20)) C inX11_tellOne_X11 hK hP 0 rfl rfl 20 (by decide) rfl LX11_tellOne_40 rfl dX11_tellOne_46 ?_
    refine lv_aload_n hx hb dX11_tellOne_49 rfl (lv_at hl 0 rfl) ?_
    refine q_get (v := .int (s.v 19)) C inX11_tellOne_X11 hK hP 0 rfl rfl 19 (by decide) rfl LX11_tellOne_218 rfl dX11_tellOne_50 ?_
    obtain ⟨g3, hB⟩ := guard_inv hB
    refine q_iald (x := (s.f 20 (Int32.toNatClampNeg (s.v 19)))) C hK hP 8 1 rfl rfl (vpb_in g3) dX11_tellOne_53 rfl ?_
    refine lv_iconst (v := 5) hx hb dX11_tellOne_54 (by decide) ?_
    obtain ⟨s4, hc, hB⟩ := bindP_inv hB
    refine q_govF (va_runV (As := [.int (s.f 20 (Int32.toNatClampNeg (s.v 19))), .int 5]) (rest := []) C (cr_roomFor hc _) (cwV 2 hts gX11_tellOne_X11_roomFor rfl rfl rfl (by decide +kernel) ⟨Nat.le_of_ble_eq_true rfl, Nat.le_of_ble_eq_true rfl⟩) (q_preV hK hP (ci := 11) (q0 := 0) rfl rfl rfl (q_preF hN hK hP hD)) rfl rfl hl.1 rfl (lv_room (Nat.le_of_ble_eq_true rfl)) dX11_tellOne_55 ⟨Nat.le_of_ble_eq_true rfl, Nat.le_of_ble_eq_true rfl⟩) hD hS hA (fun w1 H locs hw hP hD hS => ?_)
    subst hw
    refine lv_aload_n hx hb dX11_tellOne_58 rfl (lv_at hl 0 rfl) ?_
    refine q_get (v := .int (s4.v 13)) C inX11_tellOne_X11 hK hP 0 rfl rfl 13 (by decide) rfl LX11_tellOne_185 rfl dX11_tellOne_59 ?_
    refine lv_if_ne (tgt := 182) hx hb dX11_tellOne_62 (by decide) (fun c5 => ?_) (fun c5 => ?_)
    · have hB := if_n hB c5
      exact q_vret C hr hlocks hK hP hD hS (Nat.le_of_ble_eq_true rfl) (Nat.le_of_ble_eq_true rfl) dX11_tellOne_182 (by cases hB; rfl)
    · have hB := if_p hB c5
      refine lv_aload_n hx hb dX11_tellOne_65 rfl (lv_at hl 0 rfl) ?_
      obtain ⟨s6, hc, hB⟩ := bindP_inv hB
      refine q_govF (va_runV (As := []) (rest := []) C (cr_tellWave hc _) (cwV 0 hts gX11_tellOne_X11_tellWave rfl rfl rfl (by decide +kernel) ⟨Nat.le_of_ble_eq_true rfl, Nat.le_of_ble_eq_true rfl⟩) (q_preV hK hP (ci := 11) (q0 := 0) rfl rfl rfl (q_preF hN hK hP hD)) rfl rfl hl.1 rfl (lv_room (Nat.le_of_ble_eq_true rfl)) dX11_tellOne_66 ⟨Nat.le_of_ble_eq_true rfl, Nat.le_of_ble_eq_true rfl⟩) hD hS hA (fun w1 H locs hw hP hD hS => ?_)
      subst hw
      refine lv_goto (tgt := 182) hx hb dX11_tellOne_69 (by decide) ?_
      exact q_vret C hr hlocks hK hP hD hS (Nat.le_of_ble_eq_true rfl) (Nat.le_of_ble_eq_true rfl) dX11_tellOne_182 (by cases hB; rfl)
  · have hB := if_n hB e2
    by_cases e7 : (s.f 5 (Int32.toNatClampNeg (s.v 11))) = 21
    · have hB := if_p hB e7
      refine q_top (y := 21) e7 ?_
      refine lv_lookup (off := 63) (tgt := 72) hx hb dX11_tellOne_9 (by decide +kernel) (by decide +kernel) (by decide) ?_
      refine lv_aload_n hx hb dX11_tellOne_72 rfl (lv_at hl 0 rfl) ?_
      refine lv_aload_n hx hb dX11_tellOne_73 rfl (lv_at hl 0 rfl) ?_
      refine q_get (v := .ref (a 23)) C inX11_tellOne_X11 hK hP 0 rfl rfl 23 (by decide) rfl LX11_tellOne_49 rfl dX11_tellOne_74 ?_
      refine lv_aload_n hx hb dX11_tellOne_77 rfl (lv_at hl 0 rfl) ?_
      refine q_get (v := .int (s.v 19)) C inX11_tellOne_X11 hK hP 0 rfl rfl 19 (by decide) rfl LX11_tellOne_218 rfl dX11_tellOne_78 ?_
      obtain ⟨g8, hB⟩ := guard_inv hB
      refine q_iald (x := (s.f 23 (Int32.toNatClampNeg (s.v 19)))) C hK hP 11 1 rfl rfl (vpb_in g8) dX11_tellOne_81 rfl ?_
      refine lv_bipush (v := 6) hx hb dX11_tellOne_82 (by decide) ?_
      obtain ⟨s9, hc, hB⟩ := bindP_inv hB
      refine q_govF (va_runV (As := [.int (s.f 23 (Int32.toNatClampNeg (s.v 19))), .int 6]) (rest := []) C (cr_roomFor hc _) (cwV 2 hts gX11_tellOne_X11_roomFor rfl rfl rfl (by decide +kernel) ⟨Nat.le_of_ble_eq_true rfl, Nat.le_of_ble_eq_true rfl⟩) (q_preV hK hP (ci := 11) (q0 := 0) rfl rfl rfl (q_preF hN hK hP hD)) rfl rfl hl.1 rfl (lv_room (Nat.le_of_ble_eq_true rfl)) dX11_tellOne_84 ⟨Nat.le_of_ble_eq_true rfl, Nat.le_of_ble_eq_true rfl⟩) hD hS hA (fun w1 H locs hw hP hD hS => ?_)
      subst hw
      refine lv_aload_n hx hb dX11_tellOne_87 rfl (lv_at hl 0 rfl) ?_
      refine q_get (v := .int (s9.v 13)) C inX11_tellOne_X11 hK hP 0 rfl rfl 13 (by decide) rfl LX11_tellOne_185 rfl dX11_tellOne_88 ?_
      refine lv_if_ne (tgt := 182) hx hb dX11_tellOne_91 (by decide) (fun c10 => ?_) (fun c10 => ?_)
      · have hB := if_n hB c10
        exact q_vret C hr hlocks hK hP hD hS (Nat.le_of_ble_eq_true rfl) (Nat.le_of_ble_eq_true rfl) dX11_tellOne_182 (by cases hB; rfl)
      · have hB := if_p hB c10
        refine lv_aload_n hx hb dX11_tellOne_94 rfl (lv_at hl 0 rfl) ?_
        obtain ⟨s11, hc, hB⟩ := bindP_inv hB
        refine q_govF (va_runV (As := []) (rest := []) C (cr_tellParty hc _) (cwV 0 hts gX11_tellOne_X11_tellParty rfl rfl rfl (by decide +kernel) ⟨Nat.le_of_ble_eq_true rfl, Nat.le_of_ble_eq_true rfl⟩) (q_preV hK hP (ci := 11) (q0 := 0) rfl rfl rfl (q_preF hN hK hP hD)) rfl rfl hl.1 rfl (lv_room (Nat.le_of_ble_eq_true rfl)) dX11_tellOne_95 ⟨Nat.le_of_ble_eq_true rfl, Nat.le_of_ble_eq_true rfl⟩) hD hS hA (fun w1 H locs hw hP hD hS => ?_)
        subst hw
        refine lv_goto (tgt := 182) hx hb dX11_tellOne_98 (by decide) ?_
        exact q_vret C hr hlocks hK hP hD hS (Nat.le_of_ble_eq_true rfl) (Nat.le_of_ble_eq_true rfl) dX11_tellOne_182 (by cases hB; rfl)
    · have hB := if_n hB e7
      by_cases e12 : (s.f 5 (Int32.toNatClampNeg (s.v 11))) = 26
      · have hB := if_p hB e12
        refine q_top (y := 26) e12 ?_
        refine lv_lookup (off := 92) (tgt := 101) hx hb dX11_tellOne_9 (by decide +kernel) (by decide +kernel) (by decide) ?_
        refine lv_aload_n hx hb dX11_tellOne_101 rfl (lv_at hl 0 rfl) ?_
        obtain ⟨s13, hc, hB⟩ := bindP_inv hB
        refine q_govF (va_runV (As := []) (rest := []) C (cr_goesOn hc _) (cwV 0 hts gX11_tellOne_X11_goesOn rfl rfl rfl (by decide +kernel) ⟨Nat.le_of_ble_eq_true rfl, Nat.le_of_ble_eq_true rfl⟩) (q_preV hK hP (ci := 11) (q0 := 0) rfl rfl rfl (q_preF hN hK hP hD)) rfl rfl hl.1 rfl (lv_room (Nat.le_of_ble_eq_true rfl)) dX11_tellOne_102 ⟨Nat.le_of_ble_eq_true rfl, Nat.le_of_ble_eq_true rfl⟩) hD hS hA (fun w1 H locs hw hP hD hS => ?_)
        subst hw
        refine lv_aload_n hx hb dX11_tellOne_105 rfl (lv_at hl 0 rfl) ?_
        refine q_get (v := .ref (a 26)) C inX11_tellOne_X11 hK hP 0 rfl rfl 26 (by decide) rfl LX11_tellOne_58 rfl dX11_tellOne_106 ?_
        refine lv_aload_n hx hb dX11_tellOne_109 rfl (lv_at hl 0 rfl) ?_
        refine q_get (v := .int (s13.v 19)) C inX11_tellOne_X11 hK hP 0 rfl rfl 19 (by decide) rfl LX11_tellOne_218 rfl dX11_tellOne_110 ?_
        refine lv_aload_n hx hb dX11_tellOne_113 rfl (lv_at hl 0 rfl) ?_
        refine lv_sipush (v := 9999) hx hb dX11_tellOne_114 (by decide) ?_
        obtain ⟨q_, s14, hc, hB⟩ := bindI_inv hB
        refine q_goiF (va_runV (As := [.int 9999]) (rest := [.int (s13.v 19), .ref (a 26)]) C (cr_bounded hc _) (cwV 1 hts gX11_tellOne_X11_bounded rfl rfl rfl (by decide +kernel) ⟨Nat.le_of_ble_eq_true rfl, Nat.le_of_ble_eq_true rfl⟩) (q_preV hK hP (ci := 11) (q0 := 0) rfl rfl rfl (q_preF hN hK hP hD)) rfl rfl hl.1 rfl (lv_room (Nat.le_of_ble_eq_true rfl)) dX11_tellOne_117 ⟨Nat.le_of_ble_eq_true rfl, Nat.le_of_ble_eq_true rfl⟩) hD hS hA (fun r15 w1 H locs hw hP hD hS => ?_)
        obtain ⟨hq_, hw⟩ := hw; subst hw; subst hq_
        obtain ⟨g16, hB⟩ := guard_inv hB
        obtain ⟨s17, hs18, hB⟩ := letS_inv hB
        refine q_iast (f2 := (upd (s14.f 26) (Int32.toNatClampNeg (s13.v 19)) r15)) (w2 := (mwS cB cI cJ cZ h a s17)) C hK hP hD hS 14 1 rfl rfl (vpb_in g16) dX11_tellOne_120 rfl (mwS_f26 hs18) (fun H locs hP hD hS => ?_)
        refine lv_aload_n hx hb dX11_tellOne_121 rfl (lv_at hl 0 rfl) ?_
        refine lv_iconst (v := 4) hx hb dX11_tellOne_122 (by decide) ?_
        obtain ⟨s19, hc, hB⟩ := bindP_inv hB
        refine q_govF (va_runV (As := [.int 4]) (rest := []) C (cr_must hc _) (cwV 1 hts gX11_tellOne_X11_must rfl rfl rfl (by decide +kernel) ⟨Nat.le_of_ble_eq_true rfl, Nat.le_of_ble_eq_true rfl⟩) (q_preV hK hP (ci := 11) (q0 := 0) rfl rfl rfl (q_preF hN hK hP hD)) rfl rfl hl.1 rfl (lv_room (Nat.le_of_ble_eq_true rfl)) dX11_tellOne_123 ⟨Nat.le_of_ble_eq_true rfl, Nat.le_of_ble_eq_true rfl⟩) hD hS hA (fun w1 H locs hw hP hD hS => ?_)
        subst hw
        refine lv_goto (tgt := 182) hx hb dX11_tellOne_126 (by decide) ?_
        exact q_vret C hr hlocks hK hP hD hS (Nat.le_of_ble_eq_true rfl) (Nat.le_of_ble_eq_true rfl) dX11_tellOne_182 (by cases hB; rfl)
      · have hB := if_n hB e12
        refine lv_lookup (off := 120) (tgt := 129) hx hb dX11_tellOne_9 (by decide +kernel) (by have z0 := ne_toInt (k := 20) rfl e2; have z1 := ne_toInt (k := 21) rfl e7; have z2 := ne_toInt (k := 26) rfl e12; simp [Op.lookupswitch.offset, z0, Ne.symm z0, z1, Ne.symm z1, z2, Ne.symm z2]) (by decide) ?_
        refine lv_aload_n hx hb dX11_tellOne_129 rfl (lv_at hl 0 rfl) ?_
        refine q_get (v := .ref (a 5)) C inX11_tellOne_X11 hK hP 0 rfl rfl 5 (by decide) rfl LX11_tellOne_20 rfl dX11_tellOne_130 ?_
        refine lv_aload_n hx hb dX11_tellOne_133 rfl (lv_at hl 0 rfl) ?_
        refine q_get (v := .int (s.v 11)) C inX11_tellOne_X11 hK hP 0 rfl rfl 11 (by decide) rfl LX11_tellOne_188 rfl dX11_tellOne_134 ?_
        obtain ⟨g20, hB⟩ := guard_inv hB
        refine q_iald (x := (s.f 5 (Int32.toNatClampNeg (s.v 11)))) C hK hP 3 1 rfl rfl (vpb_in g20) dX11_tellOne_137 rfl ?_
        refine lv_bipush (v := 22) hx hb dX11_tellOne_138 (by decide) ?_
        refine lv_isub hx hb dX11_tellOne_140 ?_
        refine lv_istore_n (lv' := [(1, .int ((s.f 5 (Int32.toNatClampNeg (s.v 11))) - 22)), (0, .ref h)]) hx hb dX11_tellOne_141 rfl hl (by decide) rfl (fun ls hl => ?_)
        refine lv_iload_n hx hb dX11_tellOne_142 rfl (lv_at hl 0 rfl) ?_
        refine lv_if_lt (tgt := 160) hx hb dX11_tellOne_143 (by decide) (fun c21 => ?_) (fun c21 => ?_)
        · have hB := if_p hB c21
          exact br_tellOne_160 _ _ hB p e s0 m below meth c A E H locs ls hP hD hS (lv_sub hl [1, 0] rfl)
        · have hB := if_n hB c21
          refine lv_aload_n hx hb dX11_tellOne_146 rfl (lv_at hl 1 rfl) ?_
          refine q_get (v := .ref (a 5)) C inX11_tellOne_X11 hK hP 0 rfl rfl 5 (by decide) rfl LX11_tellOne_20 rfl dX11_tellOne_147 ?_
          refine lv_aload_n hx hb dX11_tellOne_150 rfl (lv_at hl 1 rfl) ?_
          refine q_get (v := .int (s.v 11)) C inX11_tellOne_X11 hK hP 0 rfl rfl 11 (by decide) rfl LX11_tellOne_188 rfl dX11_tellOne_151 ?_
          obtain ⟨g22, hB⟩ := guard_inv hB
          refine q_iald (x := (s.f 5 (Int32.toNatClampNeg (s.v 11)))) C hK hP 3 1 rfl rfl (vpb_in g22) dX11_tellOne_154 rfl ?_
          refine lv_bipush (v := 25) hx hb dX11_tellOne_155 (by decide) ?_
          refine lv_icmp_le (tgt := 165) hx hb dX11_tellOne_157 (by decide) (fun c23 => ?_) (fun c23 => ?_)
          · have hB := if_p hB c23
            exact br_tellOne_165 _ _ hB p e s0 m below meth c A E H locs ls hP hD hS (lv_sub hl [1, 0] rfl)
          · have hB := if_n hB c23
            exact br_tellOne_160 _ _ hB p e s0 m below meth c A E H locs ls hP hD hS (lv_sub hl [1, 0] rfl)
theorem cr_tellOne {l : Launch} {dC : Nat → ClassId} {dI : Nat → Nat → Nat} {cB cI cJ cZ cS : ClassId} {h : Nat} {a : Nat → Nat} {s' : RS} {s : RS} (hB : r_tellOne s = some s') : CV l yX11_tellOne wsX11_tellOne ({ frames := 6, cells := 0, slots := 0, locals := 126 }) (dC, dI) (tysA cB cI cJ cZ cS) (mwS cB cI cJ cZ h a s) [.ref h] (fun u => u = (mwS cB cI cJ cZ h a s')) :=
  CV_of (cc := cX11_tellOne) (maxL := 2) (ret := none) (by decide) rfl (Nat.le_of_ble_eq_true rfl) (br_tellOne _ hB)
theorem LX11_begins_101 : Cond.fieldLink RX11 101 "GuessFerryModel" "row" "[I" ∈ wsX11_begins := by decide +kernel
theorem LX11_begins_104 : Cond.fieldLink RX11 104 "GuessFerryModel" "sixes" "[I" ∈ wsX11_begins := by decide +kernel
theorem LX11_begins_215 : Cond.fieldLink RX11 215 "GuessFerryModel" "live" "I" ∈ wsX11_begins := by decide +kernel
theorem LX11_begins_289 : Cond.fieldLink RX11 289 "GuessFerryModel" "lots" "I" ∈ wsX11_begins := by decide +kernel
theorem LX11_begins_58 : Cond.fieldLink RX11 58 "GuessFerryModel" "seed" "[I" ∈ wsX11_begins := by decide +kernel
theorem inX11_begins_X11 : ∀ w ∈ u_ws RX11 TX11 58, w ∈ wsX11_begins := fun _ h => List.mem_cons_of_mem _ (List.mem_append_right _ h)
set_option maxHeartbeats 4000000 in
set_option maxRecDepth 100000 in
theorem br_begins_46 {l : Launch} {dC : Nat → ClassId} {dI : Nat → Nat → Nat} {cB cI cJ cZ cS : ClassId} {h : Nat} {a : Nat → Nat} {as : List Value} {s' : RS} {k46 : RS → Int32 → Option RS} (hk46 : ∀ (s : RS) (x1 : Int32), k46 s x1 = some s' → BlkV l yX11_begins wsX11_begins ({ frames := 0, cells := 0, slots := 0, locals := 0 }) cX11_begins 2 none (dC, dI) (tysA cB cI cJ cZ cS) as 46 (mwS cB cI cJ cZ h a s) [(0, .ref h), (1, .int x1)] [] (fun u => u = (mwS cB cI cJ cZ h a s'))) (s : RS) (x1 : Int32) (hB : r_begins_46 k46 s x1 = some s') : BlkV l yX11_begins wsX11_begins ({ frames := 0, cells := 0, slots := 0, locals := 0 }) cX11_begins 2 none (dC, dI) (tysA cB cI cJ cZ cS) as 46 (mwS cB cI cJ cZ h a s) [(0, .ref h), (1, .int x1)] [] (fun u => u = (mwS cB cI cJ cZ h a s')) := by
  intro p e s0 m below meth c A E H locs ls hP hD hS hl
  obtain ⟨C, hr, hlocks, hA, hK, hN⟩ := id E
  obtain ⟨hx, hb, hml, hown, hts⟩ := id C
  unfold r_begins_46 at hB
  refine lv_iload_n hx hb dX11_begins_46 rfl (lv_at hl 1 rfl) ?_
  refine lv_bipush (v := 6) hx hb dX11_begins_47 (by decide) ?_
  refine lv_icmp_ge (tgt := 75) hx hb dX11_begins_49 (by decide) (fun c1 => ?_) (fun c1 => ?_)
  · have hB := if_p hB c1
    refine lv_aload_n hx hb dX11_begins_75 rfl (lv_at hl 0 rfl) ?_
    refine lv_aload_n hx hb dX11_begins_76 rfl (lv_at hl 0 rfl) ?_
    refine q_get (v := .ref (a 26)) C inX11_begins_X11 hK hP 0 rfl rfl 26 (by decide) rfl LX11_begins_58 rfl dX11_begins_77 ?_
    refine lv_aload_n hx hb dX11_begins_80 rfl (lv_at hl 0 rfl) ?_
    refine q_get (v := .int (s.v 18)) C inX11_begins_X11 hK hP 0 rfl rfl 18 (by decide) rfl LX11_begins_215 rfl dX11_begins_81 ?_
    obtain ⟨g2, hB⟩ := guard_inv hB
    refine q_iald (x := (s.f 26 (Int32.toNatClampNeg (s.v 18)))) C hK hP 14 1 rfl rfl (vpb_in g2) dX11_begins_84 rfl ?_
    obtain ⟨s3, hs4, hB⟩ := letS_inv hB
    refine q_put (ty := .int) (w2 := (mwS cB cI cJ cZ h a s3)) tyX11 tyX11_ok nmX11 C inX11_begins_X11 hK hP hD hS 0 rfl rfl 45 (by decide) rfl LX11_begins_289 rfl (by decide +kernel) (rfl) rfl (Nat.le_of_ble_eq_true rfl) dX11_begins_85 (mwS_v45 hs4) (fun H locs hP hD hS => ?_)
    exact q_vret C hr hlocks hK hP hD hS (Nat.le_of_ble_eq_true rfl) (Nat.le_of_ble_eq_true rfl) dX11_begins_88 (by cases hB; rfl)
  · have hB := if_n hB c1
    refine lv_aload_n hx hb dX11_begins_52 rfl (lv_at hl 0 rfl) ?_
    refine q_get (v := .ref (a 46)) C inX11_begins_X11 hK hP 0 rfl rfl 46 (by decide) rfl LX11_begins_104 rfl dX11_begins_53 ?_
    refine lv_iload_n hx hb dX11_begins_56 rfl (lv_at hl 1 rfl) ?_
    refine lv_bipush (v := 6) hx hb dX11_begins_57 (by decide) ?_
    refine lv_aload_n hx hb dX11_begins_59 rfl (lv_at hl 0 rfl) ?_
    refine q_get (v := .ref (a 46)) C inX11_begins_X11 hK hP 0 rfl rfl 46 (by decide) rfl LX11_begins_104 rfl dX11_begins_60 ?_
    refine lv_iload_n hx hb dX11_begins_63 rfl (lv_at hl 1 rfl) ?_
    refine lv_iconst (v := 1) hx hb dX11_begins_64 (by decide) ?_
    refine lv_isub hx hb dX11_begins_65 ?_
    obtain ⟨g5, hB⟩ := guard_inv hB
    refine q_iald (x := (s.f 46 (Int32.toNatClampNeg (x1 - 1)))) C hK hP 29 1 rfl rfl (vpb_in g5) dX11_begins_66 rfl ?_
    refine lv_imul hx hb dX11_begins_67 ?_
    obtain ⟨g6, hB⟩ := guard_inv hB
    obtain ⟨s7, hs8, hB⟩ := letS_inv hB
    refine q_iast (f2 := (upd (s.f 46) (Int32.toNatClampNeg x1) (6 * (s.f 46 (Int32.toNatClampNeg (x1 - 1)))))) (w2 := (mwS cB cI cJ cZ h a s7)) C hK hP hD hS 29 1 rfl rfl (vpb_in g6) dX11_begins_68 rfl (mwS_f46 hs8) (fun H locs hP hD hS => ?_)
    refine lv_iinc (v := (x1 + 1)) (lv' := [(1, .int (x1 + 1)), (0, .ref h)]) hx hb dX11_begins_69 hl (k := 1) rfl (rfl) (by decide) rfl (fun ls hl => ?_)
    refine lv_goto (tgt := 46) hx hb dX11_begins_72 (by decide) ?_
    exact hk46 _ _ hB p e s0 m below meth c A E H locs ls hP hD hS (lv_sub hl [1, 0] rfl)
theorem br_begins_46L {l : Launch} {dC : Nat → ClassId} {dI : Nat → Nat → Nat} {cB cI cJ cZ cS : ClassId} {h : Nat} {a : Nat → Nat} {as : List Value} {s' : RS} : ∀ (n : Nat) (s : RS) (x1 : Int32), r_begins_46L n s x1 = some s' → BlkV l yX11_begins wsX11_begins ({ frames := 0, cells := 0, slots := 0, locals := 0 }) cX11_begins 2 none (dC, dI) (tysA cB cI cJ cZ cS) as 46 (mwS cB cI cJ cZ h a s) [(0, .ref h), (1, .int x1)] [] (fun u => u = (mwS cB cI cJ cZ h a s')) := by
  intro n
  induction n with
  | zero => intro s x1 hB; exact none_ne hB
  | succ n ih => intro s x1 hB; exact br_begins_46 ih _ _ hB
set_option maxHeartbeats 4000000 in
set_option maxRecDepth 100000 in
theorem br_begins_30 {l : Launch} {dC : Nat → ClassId} {dI : Nat → Nat → Nat} {cB cI cJ cZ cS : ClassId} {h : Nat} {a : Nat → Nat} {as : List Value} {s' : RS} {k2 : RS → Int32 → Option RS} (hk2 : ∀ (s : RS) (x1 : Int32), k2 s x1 = some s' → BlkV l yX11_begins wsX11_begins ({ frames := 0, cells := 0, slots := 0, locals := 0 }) cX11_begins 2 none (dC, dI) (tysA cB cI cJ cZ cS) as 2 (mwS cB cI cJ cZ h a s) [(0, .ref h), (1, .int x1)] [] (fun u => u = (mwS cB cI cJ cZ h a s'))) (s : RS) (x1 : Int32) (t0 : Int32) (t1 : Int32) (hB : r_begins_30 k2 s x1 t0 t1 = some s') : BlkV l yX11_begins wsX11_begins ({ frames := 0, cells := 0, slots := 0, locals := 0 }) cX11_begins 2 none (dC, dI) (tysA cB cI cJ cZ cS) as 30 (mwS cB cI cJ cZ h a s) [(0, .ref h), (1, .int x1)] [.int t0, .int t1, .ref (a 44)] (fun u => u = (mwS cB cI cJ cZ h a s')) := by
  intro p e s0 m below meth c A E H locs ls hP hD hS hl
  obtain ⟨C, hr, hlocks, hA, hK, hN⟩ := id E
  obtain ⟨hx, hb, hml, hown, hts⟩ := id C
  unfold r_begins_30 at hB
  obtain ⟨g1, hB⟩ := guard_inv hB
  obtain ⟨s2, hs3, hB⟩ := letS_inv hB
  refine q_iast (f2 := (upd (s.f 44) (Int32.toNatClampNeg t1) t0)) (w2 := (mwS cB cI cJ cZ h a s2)) C hK hP hD hS 28 1 rfl rfl (vpb_in g1) dX11_begins_30 rfl (mwS_f44 hs3) (fun H locs hP hD hS => ?_)
  refine lv_iinc (v := (x1 + 1)) (lv' := [(1, .int (x1 + 1)), (0, .ref h)]) hx hb dX11_begins_31 hl (k := 1) rfl (rfl) (by decide) rfl (fun ls hl => ?_)
  refine lv_goto (tgt := 2) hx hb dX11_begins_34 (by decide) ?_
  exact hk2 _ _ hB p e s0 m below meth c A E H locs ls hP hD hS (lv_sub hl [1, 0] rfl)
set_option maxHeartbeats 4000000 in
set_option maxRecDepth 100000 in
theorem br_begins_29 {l : Launch} {dC : Nat → ClassId} {dI : Nat → Nat → Nat} {cB cI cJ cZ cS : ClassId} {h : Nat} {a : Nat → Nat} {as : List Value} {s' : RS} {k2 : RS → Int32 → Option RS} (hk2 : ∀ (s : RS) (x1 : Int32), k2 s x1 = some s' → BlkV l yX11_begins wsX11_begins ({ frames := 0, cells := 0, slots := 0, locals := 0 }) cX11_begins 2 none (dC, dI) (tysA cB cI cJ cZ cS) as 2 (mwS cB cI cJ cZ h a s) [(0, .ref h), (1, .int x1)] [] (fun u => u = (mwS cB cI cJ cZ h a s'))) (s : RS) (x1 : Int32) (t0 : Int32) (hB : r_begins_29 k2 s x1 t0 = some s') : BlkV l yX11_begins wsX11_begins ({ frames := 0, cells := 0, slots := 0, locals := 0 }) cX11_begins 2 none (dC, dI) (tysA cB cI cJ cZ cS) as 29 (mwS cB cI cJ cZ h a s) [(0, .ref h), (1, .int x1)] [.int t0, .ref (a 44)] (fun u => u = (mwS cB cI cJ cZ h a s')) := by
  intro p e s0 m below meth c A E H locs ls hP hD hS hl
  obtain ⟨C, hr, hlocks, hA, hK, hN⟩ := id E
  obtain ⟨hx, hb, hml, hown, hts⟩ := id C
  unfold r_begins_29 at hB
  refine lv_iconst (v := 0) hx hb dX11_begins_29 (by decide) ?_
  exact br_begins_30 (hk2) _ _ _ _ hB p e s0 m below meth c A E H locs ls hP hD hS (lv_sub hl [0, 1] rfl)
set_option maxHeartbeats 4000000 in
set_option maxRecDepth 100000 in
theorem br_begins_2 {l : Launch} {dC : Nat → ClassId} {dI : Nat → Nat → Nat} {cB cI cJ cZ cS : ClassId} {h : Nat} {a : Nat → Nat} {as : List Value} {s' : RS} {k2 : RS → Int32 → Option RS} (hk2 : ∀ (s : RS) (x1 : Int32), k2 s x1 = some s' → BlkV l yX11_begins wsX11_begins ({ frames := 0, cells := 0, slots := 0, locals := 0 }) cX11_begins 2 none (dC, dI) (tysA cB cI cJ cZ cS) as 2 (mwS cB cI cJ cZ h a s) [(0, .ref h), (1, .int x1)] [] (fun u => u = (mwS cB cI cJ cZ h a s'))) (s : RS) (x1 : Int32) (hB : r_begins_2 k2 s x1 = some s') : BlkV l yX11_begins wsX11_begins ({ frames := 0, cells := 0, slots := 0, locals := 0 }) cX11_begins 2 none (dC, dI) (tysA cB cI cJ cZ cS) as 2 (mwS cB cI cJ cZ h a s) [(0, .ref h), (1, .int x1)] [] (fun u => u = (mwS cB cI cJ cZ h a s')) := by
  intro p e s0 m below meth c A E H locs ls hP hD hS hl
  obtain ⟨C, hr, hlocks, hA, hK, hN⟩ := id E
  obtain ⟨hx, hb, hml, hown, hts⟩ := id C
  unfold r_begins_2 at hB
  refine lv_iload_n hx hb dX11_begins_2 rfl (lv_at hl 1 rfl) ?_
  refine lv_bipush (v := 29) hx hb dX11_begins_3 (by decide) ?_
  refine lv_icmp_ge (tgt := 37) hx hb dX11_begins_5 (by decide) (fun c1 => ?_) (fun c1 => ?_)
  · have hB := if_p hB c1
    refine lv_aload_n hx hb dX11_begins_37 rfl (lv_at hl 0 rfl) ?_
    refine q_get (v := .ref (a 46)) C inX11_begins_X11 hK hP 0 rfl rfl 46 (by decide) rfl LX11_begins_104 rfl dX11_begins_38 ?_
    refine lv_iconst (v := 0) hx hb dX11_begins_41 (by decide) ?_
    refine lv_iconst (v := 1) hx hb dX11_begins_42 (by decide) ?_
    obtain ⟨s2, hs3, hB⟩ := letS_inv hB
    refine q_iast (f2 := (upd (s.f 46) 0 1)) (w2 := (mwS cB cI cJ cZ h a s2)) C hK hP hD hS 29 1 rfl rfl (vp_lit (by decide +kernel)) dX11_begins_43 rfl (mwS_f46 hs3) (fun H locs hP hD hS => ?_)
    refine lv_iconst (v := 1) hx hb dX11_begins_44 (by decide) ?_
    refine lv_istore_n (lv' := [(1, .int 1), (0, .ref h)]) hx hb dX11_begins_45 rfl hl (by decide) rfl (fun ls hl => ?_)
    exact br_begins_46L fu _ _ hB p e s0 m below meth c A E H locs ls hP hD hS (lv_sub hl [1, 0] rfl)
  · have hB := if_n hB c1
    refine lv_aload_n hx hb dX11_begins_8 rfl (lv_at hl 0 rfl) ?_
    refine q_get (v := .ref (a 44)) C inX11_begins_X11 hK hP 0 rfl rfl 44 (by decide) rfl LX11_begins_101 rfl dX11_begins_9 ?_
    refine lv_iload_n hx hb dX11_begins_12 rfl (lv_at hl 1 rfl) ?_
    refine lv_iload_n hx hb dX11_begins_13 rfl (lv_at hl 1 rfl) ?_
    refine lv_iconst (v := 5) hx hb dX11_begins_14 (by decide) ?_
    refine lv_icmp_lt (tgt := 29) hx hb dX11_begins_15 (by decide) (fun c4 => ?_) (fun c4 => ?_)
    · have hB := if_p hB c4
      exact br_begins_29 (hk2) _ _ _ hB p e s0 m below meth c A E H locs ls hP hD hS (lv_sub hl [0, 1] rfl)
    · have hB := if_n hB c4
      refine lv_iload_n hx hb dX11_begins_18 rfl (lv_at hl 1 rfl) ?_
      refine lv_bipush (v := 10) hx hb dX11_begins_19 (by decide) ?_
      refine lv_icmp_ge (tgt := 29) hx hb dX11_begins_21 (by decide) (fun c5 => ?_) (fun c5 => ?_)
      · have hB := if_p hB c5
        exact br_begins_29 (hk2) _ _ _ hB p e s0 m below meth c A E H locs ls hP hD hS (lv_sub hl [0, 1] rfl)
      · have hB := if_n hB c5
        refine lv_bipush (v := (-2)) hx hb dX11_begins_24 (by decide) ?_
        refine lv_goto (tgt := 30) hx hb dX11_begins_26 (by decide) ?_
        exact br_begins_30 (hk2) _ _ _ _ hB p e s0 m below meth c A E H locs ls hP hD hS (lv_sub hl [0, 1] rfl)
theorem br_begins_2L {l : Launch} {dC : Nat → ClassId} {dI : Nat → Nat → Nat} {cB cI cJ cZ cS : ClassId} {h : Nat} {a : Nat → Nat} {as : List Value} {s' : RS} : ∀ (n : Nat) (s : RS) (x1 : Int32), r_begins_2L n s x1 = some s' → BlkV l yX11_begins wsX11_begins ({ frames := 0, cells := 0, slots := 0, locals := 0 }) cX11_begins 2 none (dC, dI) (tysA cB cI cJ cZ cS) as 2 (mwS cB cI cJ cZ h a s) [(0, .ref h), (1, .int x1)] [] (fun u => u = (mwS cB cI cJ cZ h a s')) := by
  intro n
  induction n with
  | zero => intro s x1 hB; exact none_ne hB
  | succ n ih => intro s x1 hB; exact br_begins_2 ih _ _ hB
set_option maxHeartbeats 4000000 in
set_option maxRecDepth 100000 in
theorem br_begins {l : Launch} {dC : Nat → ClassId} {dI : Nat → Nat → Nat} {cB cI cJ cZ cS : ClassId} {h : Nat} {a : Nat → Nat} {as : List Value} {s' : RS} (s : RS) (hB : r_begins s = some s') : BlkV l yX11_begins wsX11_begins ({ frames := 0, cells := 0, slots := 0, locals := 0 }) cX11_begins 2 none (dC, dI) (tysA cB cI cJ cZ cS) as 0 (mwS cB cI cJ cZ h a s) [(0, .ref h)] [] (fun u => u = (mwS cB cI cJ cZ h a s')) := by
  intro p e s0 m below meth c A E H locs ls hP hD hS hl
  obtain ⟨C, hr, hlocks, hA, hK, hN⟩ := id E
  obtain ⟨hx, hb, hml, hown, hts⟩ := id C
  unfold r_begins at hB
  refine lv_iconst (v := 0) hx hb dX11_begins_0 (by decide) ?_
  refine lv_istore_n (lv' := [(1, .int 0), (0, .ref h)]) hx hb dX11_begins_1 rfl hl (by decide) rfl (fun ls hl => ?_)
  exact br_begins_2L fu _ _ hB p e s0 m below meth c A E H locs ls hP hD hS (lv_sub hl [1, 0] rfl)
theorem cr_begins {l : Launch} {dC : Nat → ClassId} {dI : Nat → Nat → Nat} {cB cI cJ cZ cS : ClassId} {h : Nat} {a : Nat → Nat} {s' : RS} {s : RS} (hB : r_begins s = some s') : CV l yX11_begins wsX11_begins ({ frames := 0, cells := 0, slots := 0, locals := 0 }) (dC, dI) (tysA cB cI cJ cZ cS) (mwS cB cI cJ cZ h a s) [.ref h] (fun u => u = (mwS cB cI cJ cZ h a s')) :=
  CV_of (cc := cX11_begins) (maxL := 2) (ret := none) (by decide) rfl (Nat.le_of_ble_eq_true rfl) (br_begins _ hB)
