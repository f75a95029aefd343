theorem dX11_emit_0 : decode cX11_emit 0 = .ok (.aload_n 0, 1) := dc1_42 (by decide +kernel)
theorem dX11_emit_1 : decode cX11_emit 1 = .ok (.getfield 83, 3) := dcw_180 (by decide +kernel)
theorem dX11_emit_4 : decode cX11_emit 4 = .ok (.aload_n 0, 1) := dc1_42 (by decide +kernel)
theorem dX11_emit_5 : decode cX11_emit 5 = .ok (.getfield 224, 3) := dcw_180 (by decide +kernel)
theorem dX11_emit_8 : decode cX11_emit 8 = .ok (.iload_n 1, 1) := dc1_27 (by decide +kernel)
theorem dX11_emit_9 : decode cX11_emit 9 = .ok (.iastore, 1) := dc1_79 (by decide +kernel)
theorem dX11_emit_10 : decode cX11_emit 10 = .ok (.aload_n 0, 1) := dc1_42 (by decide +kernel)
theorem dX11_emit_11 : decode cX11_emit 11 = .ok (.getfield 86, 3) := dcw_180 (by decide +kernel)
theorem dX11_emit_14 : decode cX11_emit 14 = .ok (.aload_n 0, 1) := dc1_42 (by decide +kernel)
theorem dX11_emit_15 : decode cX11_emit 15 = .ok (.getfield 224, 3) := dcw_180 (by decide +kernel)
theorem dX11_emit_18 : decode cX11_emit 18 = .ok (.iload_n 2, 1) := dc1_28 (by decide +kernel)
theorem dX11_emit_19 : decode cX11_emit 19 = .ok (.iastore, 1) := dc1_79 (by decide +kernel)
theorem dX11_emit_20 : decode cX11_emit 20 = .ok (.aload_n 0, 1) := dc1_42 (by decide +kernel)
theorem dX11_emit_21 : decode cX11_emit 21 = .ok (.dup, 1) := dc1_89 (by decide +kernel)
theorem dX11_emit_22 : decode cX11_emit 22 = .ok (.getfield 224, 3) := dcw_180 (by decide +kernel)
theorem dX11_emit_25 : decode cX11_emit 25 = .ok (.iconst 1, 1) := dc1_4 (by decide +kernel)
theorem dX11_emit_26 : decode cX11_emit 26 = .ok (.iadd, 1) := dc1_96 (by decide +kernel)
theorem dX11_emit_27 : decode cX11_emit 27 = .ok (.putfield 224, 3) := dcw_181 (by decide +kernel)
theorem dX11_emit_30 : decode cX11_emit 30 = .ok (.return_, 1) := dc1_177 (by decide +kernel)
theorem ggX11_comesOut_X11_emit : GoodIn wsX11_comesOut wsX11_emit := gi_sub (fun w h => List.mem_cons_of_mem _ (List.mem_append_left _ (List.mem_append_right _ h))) gd_wsX11_emit
set_option maxRecDepth 20000 in
theorem gX11_comesOut_X11_emit : GoodIn wsX11_comesOut (wsV RX11 267 RX11 yX11_emit wsX11_emit) := goodIn_app (goodIn_r _ [3, 4, 5, 6] (by decide +kernel) (by decide +kernel)) ggX11_comesOut_X11_emit
theorem dX11_comesOut_0 : decode cX11_comesOut 0 = .ok (.aload_n 0, 1) := dc1_42 (by decide +kernel)
theorem dX11_comesOut_1 : decode cX11_comesOut 1 = .ok (.getfield 264, 3) := dcw_180 (by decide +kernel)
theorem dX11_comesOut_4 : decode cX11_comesOut 4 = .ok (.ifCond .le 87, 3) := dcs_158 (n := 87) (by decide +kernel)
theorem dX11_comesOut_7 : decode cX11_comesOut 7 = .ok (.aload_n 0, 1) := dc1_42 (by decide +kernel)
theorem dX11_comesOut_8 : decode cX11_comesOut 8 = .ok (.getfield 89, 3) := dcw_180 (by decide +kernel)
theorem dX11_comesOut_11 : decode cX11_comesOut 11 = .ok (.aload_n 0, 1) := dc1_42 (by decide +kernel)
theorem dX11_comesOut_12 : decode cX11_comesOut 12 = .ok (.getfield 264, 3) := dcw_180 (by decide +kernel)
theorem dX11_comesOut_15 : decode cX11_comesOut 15 = .ok (.iconst 1, 1) := dc1_4 (by decide +kernel)
theorem dX11_comesOut_16 : decode cX11_comesOut 16 = .ok (.isub, 1) := dc1_100 (by decide +kernel)
theorem dX11_comesOut_17 : decode cX11_comesOut 17 = .ok (.iaload, 1) := dc1_46 (by decide +kernel)
theorem dX11_comesOut_18 : decode cX11_comesOut 18 = .ok (.istore_n 2, 1) := dc1_61 (by decide +kernel)
theorem dX11_comesOut_19 : decode cX11_comesOut 19 = .ok (.iload_n 2, 1) := dc1_28 (by decide +kernel)
theorem dX11_comesOut_20 : decode cX11_comesOut 20 = .ok (.bipush 6, 2) := dcb_16 (n := 6) (by decide +kernel)
theorem dX11_comesOut_22 : decode cX11_comesOut 22 = .ok (.if_icmp .eq 19, 3) := dcs_159 (n := 19) (by decide +kernel)
theorem dX11_comesOut_25 : decode cX11_comesOut 25 = .ok (.iload_n 1, 1) := dc1_27 (by decide +kernel)
theorem dX11_comesOut_26 : decode cX11_comesOut 26 = .ok (.ifCond .eq 16, 3) := dcs_153 (n := 16) (by decide +kernel)
theorem dX11_comesOut_29 : decode cX11_comesOut 29 = .ok (.iload_n 2, 1) := dc1_28 (by decide +kernel)
theorem dX11_comesOut_30 : decode cX11_comesOut 30 = .ok (.bipush 8, 2) := dcb_16 (n := 8) (by decide +kernel)
theorem dX11_comesOut_32 : decode cX11_comesOut 32 = .ok (.if_icmp .eq 9, 3) := dcs_159 (n := 9) (by decide +kernel)
theorem dX11_comesOut_35 : decode cX11_comesOut 35 = .ok (.iload_n 2, 1) := dc1_28 (by decide +kernel)
theorem dX11_comesOut_36 : decode cX11_comesOut 36 = .ok (.bipush 9, 2) := dcb_16 (n := 9) (by decide +kernel)
theorem dX11_comesOut_38 : decode cX11_comesOut 38 = .ok (.if_icmp .ne 4, 3) := dcs_160 (n := 4) (by decide +kernel)
theorem dX11_comesOut_41 : decode cX11_comesOut 41 = .ok (.return_, 1) := dc1_177 (by decide +kernel)
theorem dX11_comesOut_42 : decode cX11_comesOut 42 = .ok (.aload_n 0, 1) := dc1_42 (by decide +kernel)
theorem dX11_comesOut_43 : decode cX11_comesOut 43 = .ok (.dup, 1) := dc1_89 (by decide +kernel)
theorem dX11_comesOut_44 : decode cX11_comesOut 44 = .ok (.getfield 264, 3) := dcw_180 (by decide +kernel)
theorem dX11_comesOut_47 : decode cX11_comesOut 47 = .ok (.iconst 1, 1) := dc1_4 (by decide +kernel)
theorem dX11_comesOut_48 : decode cX11_comesOut 48 = .ok (.isub, 1) := dc1_100 (by decide +kernel)
theorem dX11_comesOut_49 : decode cX11_comesOut 49 = .ok (.putfield 264, 3) := dcw_181 (by decide +kernel)
theorem dX11_comesOut_52 : decode cX11_comesOut 52 = .ok (.aload_n 0, 1) := dc1_42 (by decide +kernel)
theorem dX11_comesOut_53 : decode cX11_comesOut 53 = .ok (.iload_n 2, 1) := dc1_28 (by decide +kernel)
theorem dX11_comesOut_54 : decode cX11_comesOut 54 = .ok (.bipush 8, 2) := dcb_16 (n := 8) (by decide +kernel)
theorem dX11_comesOut_56 : decode cX11_comesOut 56 = .ok (.if_icmp .ne 7, 3) := dcs_160 (n := 7) (by decide +kernel)
theorem dX11_comesOut_59 : decode cX11_comesOut 59 = .ok (.iconst 2, 1) := dc1_5 (by decide +kernel)
theorem dX11_comesOut_60 : decode cX11_comesOut 60 = .ok (.goto 24, 3) := dcs_167 (n := 24) (by decide +kernel)
theorem dX11_comesOut_63 : decode cX11_comesOut 63 = .ok (.iload_n 2, 1) := dc1_28 (by decide +kernel)
theorem dX11_comesOut_64 : decode cX11_comesOut 64 = .ok (.bipush 9, 2) := dcb_16 (n := 9) (by decide +kernel)
theorem dX11_comesOut_66 : decode cX11_comesOut 66 = .ok (.if_icmp .ne 7, 3) := dcs_160 (n := 7) (by decide +kernel)
theorem dX11_comesOut_69 : decode cX11_comesOut 69 = .ok (.iconst 3, 1) := dc1_6 (by decide +kernel)
theorem dX11_comesOut_70 : decode cX11_comesOut 70 = .ok (.goto 14, 3) := dcs_167 (n := 14) (by decide +kernel)
theorem dX11_comesOut_73 : decode cX11_comesOut 73 = .ok (.iload_n 2, 1) := dc1_28 (by decide +kernel)
theorem dX11_comesOut_74 : decode cX11_comesOut 74 = .ok (.bipush 10, 2) := dcb_16 (n := 10) (by decide +kernel)
theorem dX11_comesOut_76 : decode cX11_comesOut 76 = .ok (.if_icmp .ne 7, 3) := dcs_160 (n := 7) (by decide +kernel)
theorem dX11_comesOut_79 : decode cX11_comesOut 79 = .ok (.iconst 4, 1) := dc1_7 (by decide +kernel)
theorem dX11_comesOut_80 : decode cX11_comesOut 80 = .ok (.goto 4, 3) := dcs_167 (n := 4) (by decide +kernel)
theorem dX11_comesOut_83 : decode cX11_comesOut 83 = .ok (.iconst 5, 1) := dc1_8 (by decide +kernel)
theorem dX11_comesOut_84 : decode cX11_comesOut 84 = .ok (.iconst 0, 1) := dc1_3 (by decide +kernel)
theorem dX11_comesOut_85 : decode cX11_comesOut 85 = .ok (.invokevirtual 267, 3) := dcw_182 (by decide +kernel)
theorem dX11_comesOut_88 : decode cX11_comesOut 88 = .ok (.goto (-88), 3) := dcs_167 (n := 65448) (by decide +kernel)
theorem dX11_comesOut_91 : decode cX11_comesOut 91 = .ok (.return_, 1) := dc1_177 (by decide +kernel)
theorem ggX11_expression_X11_is : GoodIn wsX11_expression wsX11_is := gi_sub (fun w h => List.mem_cons_of_mem _ (List.mem_append_left _ (List.mem_append_right _ (List.mem_append_left _ h)))) gd_wsX11_is
set_option maxRecDepth 20000 in
theorem gX11_expression_X11_is : GoodIn wsX11_expression (wsV RX11 203 RX11 yX11_is wsX11_is) := goodIn_app (goodIn_r _ [7, 8, 9, 10] (by decide +kernel) (by decide +kernel)) ggX11_expression_X11_is
theorem ggX11_expression_X11_fail : GoodIn wsX11_expression wsX11_fail := gi_sub (fun w h => List.mem_cons_of_mem _ (List.mem_append_left _ (List.mem_append_right _ (List.mem_append_right _ (List.mem_append_left _ h))))) gd_wsX11_fail
set_option maxRecDepth 20000 in
theorem gX11_expression_X11_fail : GoodIn wsX11_expression (wsV RX11 200 RX11 yX11_fail wsX11_fail) := goodIn_app (goodIn_r _ [11, 12, 13, 10] (by decide +kernel) (by decide +kernel)) ggX11_expression_X11_fail
theorem ggX11_expression_X11_goesOn : GoodIn wsX11_expression wsX11_goesOn := gi_sub (fun w h => List.mem_cons_of_mem _ (List.mem_append_left _ (List.mem_append_right _ (List.mem_append_right _ (List.mem_append_right _ (List.mem_append_left _ h)))))) gd_wsX11_goesOn
set_option maxRecDepth 20000 in
theorem gX11_expression_X11_goesOn : GoodIn wsX11_expression (wsV RX11 206 RX11 yX11_goesOn wsX11_goesOn) := goodIn_app (goodIn_r _ [14, 15, 16, 10] (by decide +kernel) (by decide +kernel)) ggX11_expression_X11_goesOn
theorem ggX11_expression_X11_unit : GoodIn wsX11_expression wsX11_unit := gi_sub (fun w h => List.mem_cons_of_mem _ (List.mem_append_left _ (List.mem_append_right _ (List.mem_append_right _ (List.mem_append_right _ (List.mem_append_right _ (List.mem_append_left _ h))))))) gd_wsX11_unit
set_option maxRecDepth 20000 in
theorem gX11_expression_X11_unit : GoodIn wsX11_expression (wsV RX11 270 RX11 yX11_unit wsX11_unit) := goodIn_app (goodIn_r _ [17, 18, 19, 10] (by decide +kernel) (by decide +kernel)) ggX11_expression_X11_unit
theorem ggX11_expression_X11_comesOut : GoodIn wsX11_expression wsX11_comesOut := gi_sub (fun w h => List.mem_cons_of_mem _ (List.mem_append_left _ (List.mem_append_right _ (List.mem_append_right _ (List.mem_append_right _ (List.mem_append_right _ (List.mem_append_right _ h))))))) gd_wsX11_comesOut
set_option maxRecDepth 20000 in
theorem gX11_expression_X11_comesOut : GoodIn wsX11_expression (wsV RX11 273 RX11 yX11_comesOut wsX11_comesOut) := goodIn_app (goodIn_r _ [20, 21, 22, 10] (by decide +kernel) (by decide +kernel)) ggX11_expression_X11_comesOut
theorem dX11_expression_0 : decode cX11_expression 0 = .ok (.aload_n 0, 1) := dc1_42 (by decide +kernel)
theorem dX11_expression_1 : decode cX11_expression 1 = .ok (.iconst 0, 1) := dc1_3 (by decide +kernel)
theorem dX11_expression_2 : decode cX11_expression 2 = .ok (.putfield 264, 3) := dcw_181 (by decide +kernel)
theorem dX11_expression_5 : decode cX11_expression 5 = .ok (.aload_n 0, 1) := dc1_42 (by decide +kernel)
theorem dX11_expression_6 : decode cX11_expression 6 = .ok (.getfield 212, 3) := dcw_180 (by decide +kernel)
theorem dX11_expression_9 : decode cX11_expression 9 = .ok (.istore_n 1, 1) := dc1_60 (by decide +kernel)
theorem dX11_expression_10 : decode cX11_expression 10 = .ok (.iconst 1, 1) := dc1_4 (by decide +kernel)
theorem dX11_expression_11 : decode cX11_expression 11 = .ok (.istore_n 2, 1) := dc1_61 (by decide +kernel)
theorem dX11_expression_12 : decode cX11_expression 12 = .ok (.iload_n 2, 1) := dc1_28 (by decide +kernel)
theorem dX11_expression_13 : decode cX11_expression 13 = .ok (.ifCond .eq 259, 3) := dcs_153 (n := 259) (by decide +kernel)
theorem dX11_expression_16 : decode cX11_expression 16 = .ok (.aload_n 0, 1) := dc1_42 (by decide +kernel)
theorem dX11_expression_17 : decode cX11_expression 17 = .ok (.getfield 185, 3) := dcw_180 (by decide +kernel)
theorem dX11_expression_20 : decode cX11_expression 20 = .ok (.ifCond .ne 252, 3) := dcs_154 (n := 252) (by decide +kernel)
theorem dX11_expression_23 : decode cX11_expression 23 = .ok (.aload_n 0, 1) := dc1_42 (by decide +kernel)
theorem dX11_expression_24 : decode cX11_expression 24 = .ok (.bipush 6, 2) := dcb_16 (n := 6) (by decide +kernel)
theorem dX11_expression_26 : decode cX11_expression 26 = .ok (.invokevirtual 203, 3) := dcw_182 (by decide +kernel)
theorem dX11_expression_29 : decode cX11_expression 29 = .ok (.ifCond .eq 55, 3) := dcs_153 (n := 55) (by decide +kernel)
theorem dX11_expression_32 : decode cX11_expression 32 = .ok (.aload_n 0, 1) := dc1_42 (by decide +kernel)
theorem dX11_expression_33 : decode cX11_expression 33 = .ok (.getfield 212, 3) := dcw_180 (by decide +kernel)
theorem dX11_expression_36 : decode cX11_expression 36 = .ok (.bipush 6, 2) := dcb_16 (n := 6) (by decide +kernel)
theorem dX11_expression_38 : decode cX11_expression 38 = .ok (.if_icmp .ne 8, 3) := dcs_160 (n := 8) (by decide +kernel)
theorem dX11_expression_41 : decode cX11_expression 41 = .ok (.aload_n 0, 1) := dc1_42 (by decide +kernel)
theorem dX11_expression_42 : decode cX11_expression 42 = .ok (.iconst 2, 1) := dc1_5 (by decide +kernel)
theorem dX11_expression_43 : decode cX11_expression 43 = .ok (.invokevirtual 200, 3) := dcw_182 (by decide +kernel)
theorem dX11_expression_46 : decode cX11_expression 46 = .ok (.aload_n 0, 1) := dc1_42 (by decide +kernel)
theorem dX11_expression_47 : decode cX11_expression 47 = .ok (.dup, 1) := dc1_89 (by decide +kernel)
theorem dX11_expression_48 : decode cX11_expression 48 = .ok (.getfield 212, 3) := dcw_180 (by decide +kernel)
theorem dX11_expression_51 : decode cX11_expression 51 = .ok (.iconst 1, 1) := dc1_4 (by decide +kernel)
theorem dX11_expression_52 : decode cX11_expression 52 = .ok (.iadd, 1) := dc1_96 (by decide +kernel)
theorem dX11_expression_53 : decode cX11_expression 53 = .ok (.putfield 212, 3) := dcw_181 (by decide +kernel)
theorem dX11_expression_56 : decode cX11_expression 56 = .ok (.aload_n 0, 1) := dc1_42 (by decide +kernel)
theorem dX11_expression_57 : decode cX11_expression 57 = .ok (.invokevirtual 206, 3) := dcw_182 (by decide +kernel)
theorem dX11_expression_60 : decode cX11_expression 60 = .ok (.aload_n 0, 1) := dc1_42 (by decide +kernel)
theorem dX11_expression_61 : decode cX11_expression 61 = .ok (.getfield 89, 3) := dcw_180 (by decide +kernel)
theorem dX11_expression_64 : decode cX11_expression 64 = .ok (.aload_n 0, 1) := dc1_42 (by decide +kernel)
theorem dX11_expression_65 : decode cX11_expression 65 = .ok (.getfield 264, 3) := dcw_180 (by decide +kernel)
theorem dX11_expression_68 : decode cX11_expression 68 = .ok (.bipush 6, 2) := dcb_16 (n := 6) (by decide +kernel)
theorem dX11_expression_70 : decode cX11_expression 70 = .ok (.iastore, 1) := dc1_79 (by decide +kernel)
theorem dX11_expression_71 : decode cX11_expression 71 = .ok (.aload_n 0, 1) := dc1_42 (by decide +kernel)
theorem dX11_expression_72 : decode cX11_expression 72 = .ok (.dup, 1) := dc1_89 (by decide +kernel)
theorem dX11_expression_73 : decode cX11_expression 73 = .ok (.getfield 264, 3) := dcw_180 (by decide +kernel)
theorem dX11_expression_76 : decode cX11_expression 76 = .ok (.iconst 1, 1) := dc1_4 (by decide +kernel)
theorem dX11_expression_77 : decode cX11_expression 77 = .ok (.iadd, 1) := dc1_96 (by decide +kernel)
theorem dX11_expression_78 : decode cX11_expression 78 = .ok (.putfield 264, 3) := dcw_181 (by decide +kernel)
theorem dX11_expression_81 : decode cX11_expression 81 = .ok (.goto (-58), 3) := dcs_167 (n := 65478) (by decide +kernel)
theorem dX11_expression_84 : decode cX11_expression 84 = .ok (.aload_n 0, 1) := dc1_42 (by decide +kernel)
theorem dX11_expression_85 : decode cX11_expression 85 = .ok (.invokevirtual 270, 3) := dcw_182 (by decide +kernel)
theorem dX11_expression_88 : decode cX11_expression 88 = .ok (.aload_n 0, 1) := dc1_42 (by decide +kernel)
theorem dX11_expression_89 : decode cX11_expression 89 = .ok (.getfield 185, 3) := dcw_180 (by decide +kernel)
theorem dX11_expression_92 : decode cX11_expression 92 = .ok (.ifCond .le 4, 3) := dcs_158 (n := 4) (by decide +kernel)
theorem dX11_expression_95 : decode cX11_expression 95 = .ok (.return_, 1) := dc1_177 (by decide +kernel)
theorem dX11_expression_96 : decode cX11_expression 96 = .ok (.aload_n 0, 1) := dc1_42 (by decide +kernel)
theorem dX11_expression_97 : decode cX11_expression 97 = .ok (.bipush 7, 2) := dcb_16 (n := 7) (by decide +kernel)
theorem dX11_expression_99 : decode cX11_expression 99 = .ok (.invokevirtual 203, 3) := dcw_182 (by decide +kernel)
theorem dX11_expression_102 : decode cX11_expression 102 = .ok (.ifCond .eq 43, 3) := dcs_153 (n := 43) (by decide +kernel)
theorem dX11_expression_105 : decode cX11_expression 105 = .ok (.aload_n 0, 1) := dc1_42 (by decide +kernel)
theorem dX11_expression_106 : decode cX11_expression 106 = .ok (.getfield 212, 3) := dcw_180 (by decide +kernel)
theorem dX11_expression_109 : decode cX11_expression 109 = .ok (.iload_n 1, 1) := dc1_27 (by decide +kernel)
theorem dX11_expression_110 : decode cX11_expression 110 = .ok (.if_icmp .le 35, 3) := dcs_164 (n := 35) (by decide +kernel)
theorem dX11_expression_113 : decode cX11_expression 113 = .ok (.aload_n 0, 1) := dc1_42 (by decide +kernel)
theorem dX11_expression_114 : decode cX11_expression 114 = .ok (.iconst 0, 1) := dc1_3 (by decide +kernel)
theorem dX11_expression_115 : decode cX11_expression 115 = .ok (.invokevirtual 273, 3) := dcw_182 (by decide +kernel)
theorem dX11_expression_118 : decode cX11_expression 118 = .ok (.aload_n 0, 1) := dc1_42 (by decide +kernel)
theorem dX11_expression_119 : decode cX11_expression 119 = .ok (.dup, 1) := dc1_89 (by decide +kernel)
theorem dX11_expression_120 : decode cX11_expression 120 = .ok (.getfield 264, 3) := dcw_180 (by decide +kernel)
theorem dX11_expression_123 : decode cX11_expression 123 = .ok (.iconst 1, 1) := dc1_4 (by decide +kernel)
theorem dX11_expression_124 : decode cX11_expression 124 = .ok (.isub, 1) := dc1_100 (by decide +kernel)
theorem dX11_expression_125 : decode cX11_expression 125 = .ok (.putfield 264, 3) := dcw_181 (by decide +kernel)
theorem dX11_expression_128 : decode cX11_expression 128 = .ok (.aload_n 0, 1) := dc1_42 (by decide +kernel)
theorem dX11_expression_129 : decode cX11_expression 129 = .ok (.dup, 1) := dc1_89 (by decide +kernel)
theorem dX11_expression_130 : decode cX11_expression 130 = .ok (.getfield 212, 3) := dcw_180 (by decide +kernel)
theorem dX11_expression_133 : decode cX11_expression 133 = .ok (.iconst 1, 1) := dc1_4 (by decide +kernel)
theorem dX11_expression_134 : decode cX11_expression 134 = .ok (.isub, 1) := dc1_100 (by decide +kernel)
theorem dX11_expression_135 : decode cX11_expression 135 = .ok (.putfield 212, 3) := dcw_181 (by decide +kernel)
theorem dX11_expression_138 : decode cX11_expression 138 = .ok (.aload_n 0, 1) := dc1_42 (by decide +kernel)
theorem dX11_expression_139 : decode cX11_expression 139 = .ok (.invokevirtual 206, 3) := dcw_182 (by decide +kernel)
theorem dX11_expression_142 : decode cX11_expression 142 = .ok (.goto (-46), 3) := dcs_167 (n := 65490) (by decide +kernel)
theorem dX11_expression_145 : decode cX11_expression 145 = .ok (.aload_n 0, 1) := dc1_42 (by decide +kernel)
theorem dX11_expression_146 : decode cX11_expression 146 = .ok (.bipush 8, 2) := dcb_16 (n := 8) (by decide +kernel)
theorem dX11_expression_148 : decode cX11_expression 148 = .ok (.invokevirtual 203, 3) := dcw_182 (by decide +kernel)
theorem dX11_expression_151 : decode cX11_expression 151 = .ok (.ifCond .ne 30, 3) := dcs_154 (n := 30) (by decide +kernel)
theorem dX11_expression_154 : decode cX11_expression 154 = .ok (.aload_n 0, 1) := dc1_42 (by decide +kernel)
theorem dX11_expression_155 : decode cX11_expression 155 = .ok (.bipush 9, 2) := dcb_16 (n := 9) (by decide +kernel)
theorem dX11_expression_157 : decode cX11_expression 157 = .ok (.invokevirtual 203, 3) := dcw_182 (by decide +kernel)
theorem dX11_expression_160 : decode cX11_expression 160 = .ok (.ifCond .ne 21, 3) := dcs_154 (n := 21) (by decide +kernel)
theorem dX11_expression_163 : decode cX11_expression 163 = .ok (.aload_n 0, 1) := dc1_42 (by decide +kernel)
theorem dX11_expression_164 : decode cX11_expression 164 = .ok (.bipush 10, 2) := dcb_16 (n := 10) (by decide +kernel)
theorem dX11_expression_166 : decode cX11_expression 166 = .ok (.invokevirtual 203, 3) := dcw_182 (by decide +kernel)
theorem dX11_expression_169 : decode cX11_expression 169 = .ok (.ifCond .ne 12, 3) := dcs_154 (n := 12) (by decide +kernel)
theorem dX11_expression_172 : decode cX11_expression 172 = .ok (.aload_n 0, 1) := dc1_42 (by decide +kernel)
theorem dX11_expression_173 : decode cX11_expression 173 = .ok (.bipush 15, 2) := dcb_16 (n := 15) (by decide +kernel)
theorem dX11_expression_175 : decode cX11_expression 175 = .ok (.invokevirtual 203, 3) := dcw_182 (by decide +kernel)
theorem dX11_expression_178 : decode cX11_expression 178 = .ok (.ifCond .eq 7, 3) := dcs_153 (n := 7) (by decide +kernel)
theorem dX11_expression_181 : decode cX11_expression 181 = .ok (.iconst 1, 1) := dc1_4 (by decide +kernel)
theorem dX11_expression_182 : decode cX11_expression 182 = .ok (.goto 4, 3) := dcs_167 (n := 4) (by decide +kernel)
theorem dX11_expression_185 : decode cX11_expression 185 = .ok (.iconst 0, 1) := dc1_3 (by decide +kernel)
theorem dX11_expression_186 : decode cX11_expression 186 = .ok (.istore_n 2, 1) := dc1_61 (by decide +kernel)
theorem dX11_expression_187 : decode cX11_expression 187 = .ok (.iload_n 2, 1) := dc1_28 (by decide +kernel)
theorem dX11_expression_188 : decode cX11_expression 188 = .ok (.ifCond .ne 22, 3) := dcs_154 (n := 22) (by decide +kernel)
theorem dX11_expression_191 : decode cX11_expression 191 = .ok (.aload_n 0, 1) := dc1_42 (by decide +kernel)
theorem dX11_expression_192 : decode cX11_expression 192 = .ok (.getfield 212, 3) := dcw_180 (by decide +kernel)
theorem dX11_expression_195 : decode cX11_expression 195 = .ok (.iload_n 1, 1) := dc1_27 (by decide +kernel)
theorem dX11_expression_196 : decode cX11_expression 196 = .ok (.if_icmp .le 8, 3) := dcs_164 (n := 8) (by decide +kernel)
theorem dX11_expression_199 : decode cX11_expression 199 = .ok (.aload_n 0, 1) := dc1_42 (by decide +kernel)
theorem dX11_expression_200 : decode cX11_expression 200 = .ok (.iconst 1, 1) := dc1_4 (by decide +kernel)
theorem dX11_expression_201 : decode cX11_expression 201 = .ok (.invokevirtual 200, 3) := dcw_182 (by decide +kernel)
theorem dX11_expression_204 : decode cX11_expression 204 = .ok (.aload_n 0, 1) := dc1_42 (by decide +kernel)
theorem dX11_expression_205 : decode cX11_expression 205 = .ok (.iconst 0, 1) := dc1_3 (by decide +kernel)
theorem dX11_expression_206 : decode cX11_expression 206 = .ok (.invokevirtual 273, 3) := dcw_182 (by decide +kernel)
theorem dX11_expression_209 : decode cX11_expression 209 = .ok (.return_, 1) := dc1_177 (by decide +kernel)
theorem dX11_expression_210 : decode cX11_expression 210 = .ok (.aload_n 0, 1) := dc1_42 (by decide +kernel)
theorem dX11_expression_211 : decode cX11_expression 211 = .ok (.aload_n 0, 1) := dc1_42 (by decide +kernel)
theorem dX11_expression_212 : decode cX11_expression 212 = .ok (.bipush 10, 2) := dcb_16 (n := 10) (by decide +kernel)
theorem dX11_expression_214 : decode cX11_expression 214 = .ok (.invokevirtual 203, 3) := dcw_182 (by decide +kernel)
theorem dX11_expression_217 : decode cX11_expression 217 = .ok (.ifCond .ne 12, 3) := dcs_154 (n := 12) (by decide +kernel)
theorem dX11_expression_220 : decode cX11_expression 220 = .ok (.aload_n 0, 1) := dc1_42 (by decide +kernel)
theorem dX11_expression_221 : decode cX11_expression 221 = .ok (.bipush 15, 2) := dcb_16 (n := 15) (by decide +kernel)
theorem dX11_expression_223 : decode cX11_expression 223 = .ok (.invokevirtual 203, 3) := dcw_182 (by decide +kernel)
theorem dX11_expression_226 : decode cX11_expression 226 = .ok (.ifCond .eq 7, 3) := dcs_153 (n := 7) (by decide +kernel)
theorem dX11_expression_229 : decode cX11_expression 229 = .ok (.iconst 1, 1) := dc1_4 (by decide +kernel)
theorem dX11_expression_230 : decode cX11_expression 230 = .ok (.goto 4, 3) := dcs_167 (n := 4) (by decide +kernel)
theorem dX11_expression_233 : decode cX11_expression 233 = .ok (.iconst 0, 1) := dc1_3 (by decide +kernel)
theorem dX11_expression_234 : decode cX11_expression 234 = .ok (.invokevirtual 273, 3) := dcw_182 (by decide +kernel)
theorem dX11_expression_237 : decode cX11_expression 237 = .ok (.aload_n 0, 1) := dc1_42 (by decide +kernel)
theorem dX11_expression_238 : decode cX11_expression 238 = .ok (.getfield 89, 3) := dcw_180 (by decide +kernel)
theorem dX11_expression_241 : decode cX11_expression 241 = .ok (.aload_n 0, 1) := dc1_42 (by decide +kernel)
theorem dX11_expression_242 : decode cX11_expression 242 = .ok (.getfield 264, 3) := dcw_180 (by decide +kernel)
theorem dX11_expression_245 : decode cX11_expression 245 = .ok (.aload_n 0, 1) := dc1_42 (by decide +kernel)
theorem dX11_expression_246 : decode cX11_expression 246 = .ok (.getfield 20, 3) := dcw_180 (by decide +kernel)
theorem dX11_expression_249 : decode cX11_expression 249 = .ok (.aload_n 0, 1) := dc1_42 (by decide +kernel)
theorem dX11_expression_250 : decode cX11_expression 250 = .ok (.getfield 188, 3) := dcw_180 (by decide +kernel)
theorem dX11_expression_253 : decode cX11_expression 253 = .ok (.iaload, 1) := dc1_46 (by decide +kernel)
theorem dX11_expression_254 : decode cX11_expression 254 = .ok (.iastore, 1) := dc1_79 (by decide +kernel)
theorem dX11_expression_255 : decode cX11_expression 255 = .ok (.aload_n 0, 1) := dc1_42 (by decide +kernel)
theorem dX11_expression_256 : decode cX11_expression 256 = .ok (.dup, 1) := dc1_89 (by decide +kernel)
theorem dX11_expression_257 : decode cX11_expression 257 = .ok (.getfield 264, 3) := dcw_180 (by decide +kernel)
theorem dX11_expression_260 : decode cX11_expression 260 = .ok (.iconst 1, 1) := dc1_4 (by decide +kernel)
theorem dX11_expression_261 : decode cX11_expression 261 = .ok (.iadd, 1) := dc1_96 (by decide +kernel)
theorem dX11_expression_262 : decode cX11_expression 262 = .ok (.putfield 264, 3) := dcw_181 (by decide +kernel)
theorem dX11_expression_265 : decode cX11_expression 265 = .ok (.aload_n 0, 1) := dc1_42 (by decide +kernel)
theorem dX11_expression_266 : decode cX11_expression 266 = .ok (.invokevirtual 206, 3) := dcw_182 (by decide +kernel)
theorem dX11_expression_269 : decode cX11_expression 269 = .ok (.goto (-257), 3) := dcs_167 (n := 65279) (by decide +kernel)
theorem dX11_expression_272 : decode cX11_expression 272 = .ok (.return_, 1) := dc1_177 (by decide +kernel)
theorem ggX11_unit_X11_is : GoodIn wsX11_unit wsX11_is := gi_sub (fun w h => List.mem_cons_of_mem _ (List.mem_append_left _ (List.mem_append_right _ (List.mem_append_left _ h)))) gd_wsX11_is
set_option maxRecDepth 20000 in
theorem gX11_unit_X11_is : GoodIn wsX11_unit (wsV RX11 203 RX11 yX11_is wsX11_is) := goodIn_app (goodIn_r _ [5, 6, 7, 8] (by decide +kernel) (by decide +kernel)) ggX11_unit_X11_is
theorem ggX11_unit_X11_emit : GoodIn wsX11_unit wsX11_emit := gi_sub (fun w h => List.mem_cons_of_mem _ (List.mem_append_left _ (List.mem_append_right _ (List.mem_append_right _ (List.mem_append_left _ h))))) gd_wsX11_emit
set_option maxRecDepth 20000 in
theorem gX11_unit_X11_emit : GoodIn wsX11_unit (wsV RX11 267 RX11 yX11_emit wsX11_emit) := goodIn_app (goodIn_r _ [9, 10, 11, 8] (by decide +kernel) (by decide +kernel)) ggX11_unit_X11_emit
theorem ggX11_unit_X11_goesOn : GoodIn wsX11_unit wsX11_goesOn := gi_sub (fun w h => List.mem_cons_of_mem _ (List.mem_append_left _ (List.mem_append_right _ (List.mem_append_right _ (List.mem_append_right _ (List.mem_append_left _ h)))))) gd_wsX11_goesOn
set_option maxRecDepth 20000 in
theorem gX11_unit_X11_goesOn : GoodIn wsX11_unit (wsV RX11 206 RX11 yX11_goesOn wsX11_goesOn) := goodIn_app (goodIn_r _ [12, 13, 14, 8] (by decide +kernel) (by decide +kernel)) ggX11_unit_X11_goesOn
theorem ggX11_unit_X11_fail : GoodIn wsX11_unit wsX11_fail := gi_sub (fun w h => List.mem_cons_of_mem _ (List.mem_append_left _ (List.mem_append_right _ (List.mem_append_right _ (List.mem_append_right _ (List.mem_append_right _ h)))))) gd_wsX11_fail
set_option maxRecDepth 20000 in
theorem gX11_unit_X11_fail : GoodIn wsX11_unit (wsV RX11 200 RX11 yX11_fail wsX11_fail) := goodIn_app (goodIn_r _ [15, 16, 17, 8] (by decide +kernel) (by decide +kernel)) ggX11_unit_X11_fail
theorem dX11_unit_0 : decode cX11_unit 0 = .ok (.aload_n 0, 1) := dc1_42 (by decide +kernel)
theorem dX11_unit_1 : decode cX11_unit 1 = .ok (.iconst 2, 1) := dc1_5 (by decide +kernel)
theorem dX11_unit_2 : decode cX11_unit 2 = .ok (.invokevirtual 203, 3) := dcw_182 (by decide +kernel)
theorem dX11_unit_5 : decode cX11_unit 5 = .ok (.ifCond .eq 24, 3) := dcs_153 (n := 24) (by decide +kernel)
theorem dX11_unit_8 : decode cX11_unit 8 = .ok (.aload_n 0, 1) := dc1_42 (by decide +kernel)
theorem dX11_unit_9 : decode cX11_unit 9 = .ok (.iconst 0, 1) := dc1_3 (by decide +kernel)
theorem dX11_unit_10 : decode cX11_unit 10 = .ok (.aload_n 0, 1) := dc1_42 (by decide +kernel)
theorem dX11_unit_11 : decode cX11_unit 11 = .ok (.getfield 27, 3) := dcw_180 (by decide +kernel)
theorem dX11_unit_14 : decode cX11_unit 14 = .ok (.aload_n 0, 1) := dc1_42 (by decide +kernel)
theorem dX11_unit_15 : decode cX11_unit 15 = .ok (.getfield 188, 3) := dcw_180 (by decide +kernel)
theorem dX11_unit_18 : decode cX11_unit 18 = .ok (.iaload, 1) := dc1_46 (by decide +kernel)
theorem dX11_unit_19 : decode cX11_unit 19 = .ok (.invokevirtual 267, 3) := dcw_182 (by decide +kernel)
theorem dX11_unit_22 : decode cX11_unit 22 = .ok (.aload_n 0, 1) := dc1_42 (by decide +kernel)
theorem dX11_unit_23 : decode cX11_unit 23 = .ok (.invokevirtual 206, 3) := dcw_182 (by decide +kernel)
theorem dX11_unit_26 : decode cX11_unit 26 = .ok (.goto 67, 3) := dcs_167 (n := 67) (by decide +kernel)
theorem dX11_unit_29 : decode cX11_unit 29 = .ok (.aload_n 0, 1) := dc1_42 (by decide +kernel)
theorem dX11_unit_30 : decode cX11_unit 30 = .ok (.getfield 185, 3) := dcw_180 (by decide +kernel)
theorem dX11_unit_33 : decode cX11_unit 33 = .ok (.ifCond .ne 55, 3) := dcs_154 (n := 55) (by decide +kernel)
theorem dX11_unit_36 : decode cX11_unit 36 = .ok (.aload_n 0, 1) := dc1_42 (by decide +kernel)
theorem dX11_unit_37 : decode cX11_unit 37 = .ok (.getfield 20, 3) := dcw_180 (by decide +kernel)
theorem dX11_unit_40 : decode cX11_unit 40 = .ok (.aload_n 0, 1) := dc1_42 (by decide +kernel)
theorem dX11_unit_41 : decode cX11_unit 41 = .ok (.getfield 188, 3) := dcw_180 (by decide +kernel)
theorem dX11_unit_44 : decode cX11_unit 44 = .ok (.iaload, 1) := dc1_46 (by decide +kernel)
theorem dX11_unit_45 : decode cX11_unit 45 = .ok (.bipush 30, 2) := dcb_16 (n := 30) (by decide +kernel)
theorem dX11_unit_47 : decode cX11_unit 47 = .ok (.if_icmp .lt 41, 3) := dcs_161 (n := 41) (by decide +kernel)
theorem dX11_unit_50 : decode cX11_unit 50 = .ok (.aload_n 0, 1) := dc1_42 (by decide +kernel)
theorem dX11_unit_51 : decode cX11_unit 51 = .ok (.getfield 20, 3) := dcw_180 (by decide +kernel)
theorem dX11_unit_54 : decode cX11_unit 54 = .ok (.aload_n 0, 1) := dc1_42 (by decide +kernel)
theorem dX11_unit_55 : decode cX11_unit 55 = .ok (.getfield 188, 3) := dcw_180 (by decide +kernel)
theorem dX11_unit_58 : decode cX11_unit 58 = .ok (.iaload, 1) := dc1_46 (by decide +kernel)
theorem dX11_unit_59 : decode cX11_unit 59 = .ok (.bipush 38, 2) := dcb_16 (n := 38) (by decide +kernel)
theorem dX11_unit_61 : decode cX11_unit 61 = .ok (.if_icmp .gt 27, 3) := dcs_163 (n := 27) (by decide +kernel)
theorem dX11_unit_64 : decode cX11_unit 64 = .ok (.aload_n 0, 1) := dc1_42 (by decide +kernel)
theorem dX11_unit_65 : decode cX11_unit 65 = .ok (.iconst 1, 1) := dc1_4 (by decide +kernel)
theorem dX11_unit_66 : decode cX11_unit 66 = .ok (.aload_n 0, 1) := dc1_42 (by decide +kernel)
theorem dX11_unit_67 : decode cX11_unit 67 = .ok (.getfield 20, 3) := dcw_180 (by decide +kernel)
theorem dX11_unit_70 : decode cX11_unit 70 = .ok (.aload_n 0, 1) := dc1_42 (by decide +kernel)
theorem dX11_unit_71 : decode cX11_unit 71 = .ok (.getfield 188, 3) := dcw_180 (by decide +kernel)
theorem dX11_unit_74 : decode cX11_unit 74 = .ok (.iaload, 1) := dc1_46 (by decide +kernel)
theorem dX11_unit_75 : decode cX11_unit 75 = .ok (.bipush 30, 2) := dcb_16 (n := 30) (by decide +kernel)
theorem dX11_unit_77 : decode cX11_unit 77 = .ok (.isub, 1) := dc1_100 (by decide +kernel)
theorem dX11_unit_78 : decode cX11_unit 78 = .ok (.invokevirtual 267, 3) := dcw_182 (by decide +kernel)
theorem dX11_unit_81 : decode cX11_unit 81 = .ok (.aload_n 0, 1) := dc1_42 (by decide +kernel)
theorem dX11_unit_82 : decode cX11_unit 82 = .ok (.invokevirtual 206, 3) := dcw_182 (by decide +kernel)
theorem dX11_unit_85 : decode cX11_unit 85 = .ok (.goto 8, 3) := dcs_167 (n := 8) (by decide +kernel)
theorem dX11_unit_88 : decode cX11_unit 88 = .ok (.aload_n 0, 1) := dc1_42 (by decide +kernel)
theorem dX11_unit_89 : decode cX11_unit 89 = .ok (.iconst 1, 1) := dc1_4 (by decide +kernel)
theorem dX11_unit_90 : decode cX11_unit 90 = .ok (.invokevirtual 200, 3) := dcw_182 (by decide +kernel)
theorem dX11_unit_93 : decode cX11_unit 93 = .ok (.return_, 1) := dc1_177 (by decide +kernel)
theorem LX11_emit_224 : Cond.fieldLink RX11 224 "GuessFerryModel" "codes" "I" ∈ wsX11_emit := by decide +kernel
theorem LX11_emit_83 : Cond.fieldLink RX11 83 "GuessFerryModel" "code" "[I" ∈ wsX11_emit := by decide +kernel
theorem LX11_emit_86 : Cond.fieldLink RX11 86 "GuessFerryModel" "codeInt" "[I" ∈ wsX11_emit := by decide +kernel
theorem inX11_emit_X11 : ∀ w ∈ u_ws RX11 TX11 58, w ∈ wsX11_emit := fun _ h => List.mem_cons_of_mem _ (List.mem_append_right _ h)
set_option maxHeartbeats 4000000 in
set_option maxRecDepth 100000 in
theorem br_emit {l : Launch} {dC : Nat → ClassId} {dI : Nat → Nat → Nat} {cB cI cJ cZ cS : ClassId} {h : Nat} {a : Nat → Nat} {as : List Value} {s' : RS} (s : RS) (x1 : Int32) (x2 : Int32) (hB : r_emit s x1 x2 = some s') : BlkV l yX11_emit wsX11_emit ({ frames := 0, cells := 0, slots := 0, locals := 0 }) cX11_emit 3 none (dC, dI) (tysA cB cI cJ cZ cS) as 0 (mwS cB cI cJ cZ h a s) [(0, .ref h), (1, .int x1), (2, .int x2)] [] (fun u => u = (mwS cB cI cJ cZ h a s')) := by
  intro p e s0 m below meth c A E H locs ls hP hD hS hl
  obtain ⟨C, hr, hlocks, hA, hK, hN⟩ := id E
  obtain ⟨hx, hb, hml, hown, hts⟩ := id C
  unfold r_emit at hB
  refine lv_aload_n hx hb dX11_emit_0 rfl (lv_at hl 0 rfl) ?_
  refine q_get (v := .ref (a 36)) C inX11_emit_X11 hK hP 0 rfl rfl 36 (by decide) rfl LX11_emit_83 rfl dX11_emit_1 ?_
  refine lv_aload_n hx hb dX11_emit_4 rfl (lv_at hl 0 rfl) ?_
  refine q_get (v := .int (s.v 35)) C inX11_emit_X11 hK hP 0 rfl rfl 35 (by decide) rfl LX11_emit_224 rfl dX11_emit_5 ?_
  refine lv_iload_n hx hb dX11_emit_8 rfl (lv_at hl 1 rfl) ?_
  obtain ⟨g1, hB⟩ := guard_inv hB
  obtain ⟨s2, hs3, hB⟩ := letS_inv hB
  refine q_iast (f2 := (upd (s.f 36) (Int32.toNatClampNeg (s.v 35)) x1)) (w2 := (mwS cB cI cJ cZ h a s2)) C hK hP hD hS 22 1 rfl rfl (vpb_in g1) dX11_emit_9 rfl (mwS_f36 hs3) (fun H locs hP hD hS => ?_)
  refine lv_aload_n hx hb dX11_emit_10 rfl (lv_at hl 0 rfl) ?_
  refine q_get (v := .ref (a 37)) C inX11_emit_X11 hK hP 0 rfl rfl 37 (by decide) rfl LX11_emit_86 rfl dX11_emit_11 ?_
  refine lv_aload_n hx hb dX11_emit_14 rfl (lv_at hl 0 rfl) ?_
  refine q_get (v := .int (s2.v 35)) C inX11_emit_X11 hK hP 0 rfl rfl 35 (by decide) rfl LX11_emit_224 rfl dX11_emit_15 ?_
  refine lv_iload_n hx hb dX11_emit_18 rfl (lv_at hl 2 rfl) ?_
  obtain ⟨g4, hB⟩ := guard_inv hB
  obtain ⟨s5, hs6, hB⟩ := letS_inv hB
  refine q_iast (f2 := (upd (s2.f 37) (Int32.toNatClampNeg (s2.v 35)) x2)) (w2 := (mwS cB cI cJ cZ h a s5)) C hK hP hD hS 23 1 rfl rfl (vpb_in g4) dX11_emit_19 rfl (mwS_f37 hs6) (fun H locs hP hD hS => ?_)
  refine lv_aload_n hx hb dX11_emit_20 rfl (lv_at hl 0 rfl) ?_
  refine lv_dup hx hb dX11_emit_21 rfl ?_
  refine q_get (v := .int (s5.v 35)) C inX11_emit_X11 hK hP 0 rfl rfl 35 (by decide) rfl LX11_emit_224 rfl dX11_emit_22 ?_
  refine lv_iconst (v := 1) hx hb dX11_emit_25 (by decide) ?_
  refine lv_iadd hx hb dX11_emit_26 ?_
  obtain ⟨s7, hs8, hB⟩ := letS_inv hB
  refine q_put (ty := .int) (w2 := (mwS cB cI cJ cZ h a s7)) tyX11 tyX11_ok nmX11 C inX11_emit_X11 hK hP hD hS 0 rfl rfl 35 (by decide) rfl LX11_emit_224 rfl (by decide +kernel) (rfl) rfl (Nat.le_of_ble_eq_true rfl) dX11_emit_27 (mwS_v35 hs8) (fun H locs hP hD hS => ?_)
  exact q_vret C hr hlocks hK hP hD hS (Nat.le_of_ble_eq_true rfl) (Nat.le_of_ble_eq_true rfl) dX11_emit_30 (by cases hB; rfl)
theorem cr_emit {l : Launch} {dC : Nat → ClassId} {dI : Nat → Nat → Nat} {cB cI cJ cZ cS : ClassId} {h : Nat} {a : Nat → Nat} {s' : RS} {s : RS} {x1 : Int32} {x2 : Int32} (hB : r_emit s x1 x2 = some s') : CV l yX11_emit wsX11_emit ({ frames := 0, cells := 0, slots := 0, locals := 0 }) (dC, dI) (tysA cB cI cJ cZ cS) (mwS cB cI cJ cZ h a s) [.ref h, .int x1, .int x2] (fun u => u = (mwS cB cI cJ cZ h a s')) :=
  CV_of (cc := cX11_emit) (maxL := 3) (ret := none) (by decide) rfl (Nat.le_of_ble_eq_true rfl) (br_emit _ _ _ hB)
theorem LX11_unit_185 : Cond.fieldLink RX11 185 "GuessFerryModel" "fault" "I" ∈ wsX11_unit := by decide +kernel
theorem LX11_unit_188 : Cond.fieldLink RX11 188 "GuessFerryModel" "t" "I" ∈ wsX11_unit := by decide +kernel
theorem LX11_unit_20 : Cond.fieldLink RX11 20 "GuessFerryModel" "tKind" "[I" ∈ wsX11_unit := by decide +kernel
theorem LX11_unit_27 : Cond.fieldLink RX11 27 "GuessFerryModel" "tValue" "[I" ∈ wsX11_unit := by decide +kernel
theorem inX11_unit_X11 : ∀ w ∈ u_ws RX11 TX11 58, w ∈ wsX11_unit := by decide +kernel
set_option maxHeartbeats 4000000 in
set_option maxRecDepth 100000 in
theorem br_unit_88 {l : Launch} {dC : Nat → ClassId} {dI : Nat → Nat → Nat} {cB cI cJ cZ cS : ClassId} {h : Nat} {a : Nat → Nat} {as : List Value} {s' : RS} (s : RS) (hB : r_unit_88 s = some s') : BlkV l yX11_unit wsX11_unit ({ frames := 2, cells := 0, slots := 0, locals := 41 }) cX11_unit 1 none (dC, dI) (tysA cB cI cJ cZ cS) as 88 (mwS cB cI cJ cZ h a s) [(0, .ref h)] [] (fun u => u = (mwS cB cI cJ cZ h a s')) := by
  intro p e s0 m below meth c A E H locs ls hP hD hS hl
  obtain ⟨C, hr, hlocks, hA, hK, hN⟩ := id E
  obtain ⟨hx, hb, hml, hown, hts⟩ := id C
  unfold r_unit_88 at hB
  refine lv_aload_n hx hb dX11_unit_88 rfl (lv_at hl 0 rfl) ?_
  refine lv_iconst (v := 1) hx hb dX11_unit_89 (by decide) ?_
  obtain ⟨s1, hc, hB⟩ := bindP_inv hB
  refine q_govF (va_runV (As := [.int 1]) (rest := []) C (cr_fail hc _) (cwV 1 hts gX11_unit_X11_fail rfl rfl rfl (by decide +kernel) ⟨Nat.le_of_ble_eq_true rfl, Nat.le_of_ble_eq_true rfl⟩) (q_preV hK hP (ci := 11) (q0 := 0) rfl rfl rfl (q_preF hN hK hP hD)) rfl rfl hl.1 rfl (lv_room (Nat.le_of_ble_eq_true rfl)) dX11_unit_90 ⟨Nat.le_of_ble_eq_true rfl, Nat.le_of_ble_eq_true rfl⟩) hD hS hA (fun w1 H locs hw hP hD hS => ?_)
  subst hw
  exact q_vret C hr hlocks hK hP hD hS (Nat.le_of_ble_eq_true rfl) (Nat.le_of_ble_eq_true rfl) dX11_unit_93 (by cases hB; rfl)
set_option maxHeartbeats 4000000 in
set_option maxRecDepth 100000 in
theorem br_unit {l : Launch} {dC : Nat → ClassId} {dI : Nat → Nat → Nat} {cB cI cJ cZ cS : ClassId} {h : Nat} {a : Nat → Nat} {as : List Value} {s' : RS} (s : RS) (hB : r_unit s = some s') : BlkV l yX11_unit wsX11_unit ({ frames := 2, cells := 0, slots := 0, locals := 41 }) cX11_unit 1 none (dC, dI) (tysA cB cI cJ cZ cS) as 0 (mwS cB cI cJ cZ h a s) [(0, .ref h)] [] (fun u => u = (mwS cB cI cJ cZ h a s')) := by
  intro p e s0 m below meth c A E H locs ls hP hD hS hl
  obtain ⟨C, hr, hlocks, hA, hK, hN⟩ := id E
  obtain ⟨hx, hb, hml, hown, hts⟩ := id C
  unfold r_unit at hB
  refine lv_aload_n hx hb dX11_unit_0 rfl (lv_at hl 0 rfl) ?_
  refine lv_iconst (v := 2) hx hb dX11_unit_1 (by decide) ?_
  obtain ⟨q_, s1, hc, hB⟩ := bindI_inv hB
  refine q_goiF (va_runV (As := [.int 2]) (rest := []) C (cr_is hc _) (cwV 1 hts gX11_unit_X11_is rfl rfl rfl (by decide +kernel) ⟨Nat.le_of_ble_eq_true rfl, Nat.le_of_ble_eq_true rfl⟩) (q_preV hK hP (ci := 11) (q0 := 0) rfl rfl rfl (q_preF hN hK hP hD)) rfl rfl hl.1 rfl (lv_room (Nat.le_of_ble_eq_true rfl)) dX11_unit_2 ⟨Nat.le_of_ble_eq_true rfl, Nat.le_of_ble_eq_true rfl⟩) hD hS hA (fun r2 w1 H locs hw hP hD hS => ?_)
  obtain ⟨hq_, hw⟩ := hw; subst hw; subst hq_
  refine lv_if_eq (tgt := 29) hx hb dX11_unit_5 (by decide) (fun c3 => ?_) (fun c3 => ?_)
  · have hB := if_p hB c3
    refine lv_aload_n hx hb dX11_unit_29 rfl (lv_at hl 0 rfl) ?_
    refine q_get (v := .int (s1.v 13)) C inX11_unit_X11 hK hP 0 rfl rfl 13 (by decide) rfl LX11_unit_185 rfl dX11_unit_30 ?_
    refine lv_if_ne (tgt := 88) hx hb dX11_unit_33 (by decide) (fun c4 => ?_) (fun c4 => ?_)
    · have hB := if_n hB c4
      exact br_unit_88 _ hB p e s0 m below meth c A E H locs ls hP hD hS (lv_sub hl [0] rfl)
    · have hB := if_p hB c4
      refine lv_aload_n hx hb dX11_unit_36 rfl (lv_at hl 0 rfl) ?_
      refine q_get (v := .ref (a 5)) C inX11_unit_X11 hK hP 0 rfl rfl 5 (by decide) rfl LX11_unit_20 rfl dX11_unit_37 ?_
      refine lv_aload_n hx hb dX11_unit_40 rfl (lv_at hl 0 rfl) ?_
      refine q_get (v := .int (s1.v 11)) C inX11_unit_X11 hK hP 0 rfl rfl 11 (by decide) rfl LX11_unit_188 rfl dX11_unit_41 ?_
      obtain ⟨g5, hB⟩ := guard_inv hB
      refine q_iald (x := (s1.f 5 (Int32.toNatClampNeg (s1.v 11)))) C hK hP 3 1 rfl rfl (vpb_in g5) dX11_unit_44 rfl ?_
      refine lv_bipush (v := 30) hx hb dX11_unit_45 (by decide) ?_
      refine lv_icmp_lt (tgt := 88) hx hb dX11_unit_47 (by decide) (fun c6 => ?_) (fun c6 => ?_)
      · have hB := if_p hB c6
        exact br_unit_88 _ hB p e s0 m below meth c A E H locs ls hP hD hS (lv_sub hl [0] rfl)
      · have hB := if_n hB c6
        refine lv_aload_n hx hb dX11_unit_50 rfl (lv_at hl 0 rfl) ?_
        refine q_get (v := .ref (a 5)) C inX11_unit_X11 hK hP 0 rfl rfl 5 (by decide) rfl LX11_unit_20 rfl dX11_unit_51 ?_
        refine lv_aload_n hx hb dX11_unit_54 rfl (lv_at hl 0 rfl) ?_
        refine q_get (v := .int (s1.v 11)) C inX11_unit_X11 hK hP 0 rfl rfl 11 (by decide) rfl LX11_unit_188 rfl dX11_unit_55 ?_
        obtain ⟨g7, hB⟩ := guard_inv hB
        refine q_iald (x := (s1.f 5 (Int32.toNatClampNeg (s1.v 11)))) C hK hP 3 1 rfl rfl (vpb_in g7) dX11_unit_58 rfl ?_
        refine lv_bipush (v := 38) hx hb dX11_unit_59 (by decide) ?_
        refine lv_icmp_gt (tgt := 88) hx hb dX11_unit_61 (by decide) (fun c8 => ?_) (fun c8 => ?_)
        · have hB := if_p hB c8
          exact br_unit_88 _ hB p e s0 m below meth c A E H locs ls hP hD hS (lv_sub hl [0] rfl)
        · have hB := if_n hB c8
          refine lv_aload_n hx hb dX11_unit_64 rfl (lv_at hl 0 rfl) ?_
          refine lv_iconst (v := 1) hx hb dX11_unit_65 (by decide) ?_
          refine lv_aload_n hx hb dX11_unit_66 rfl (lv_at hl 0 rfl) ?_
          refine q_get (v := .ref (a 5)) C inX11_unit_X11 hK hP 0 rfl rfl 5 (by decide) rfl LX11_unit_20 rfl dX11_unit_67 ?_
          refine lv_aload_n hx hb dX11_unit_70 rfl (lv_at hl 0 rfl) ?_
          refine q_get (v := .int (s1.v 11)) C inX11_unit_X11 hK hP 0 rfl rfl 11 (by decide) rfl LX11_unit_188 rfl dX11_unit_71 ?_
          obtain ⟨g9, hB⟩ := guard_inv hB
          refine q_iald (x := (s1.f 5 (Int32.toNatClampNeg (s1.v 11)))) C hK hP 3 1 rfl rfl (vpb_in g9) dX11_unit_74 rfl ?_
          refine lv_bipush (v := 30) hx hb dX11_unit_75 (by decide) ?_
          refine lv_isub hx hb dX11_unit_77 ?_
          obtain ⟨s10, hc, hB⟩ := bindP_inv hB
          refine q_govF (va_runV (As := [.int 1, .int ((s1.f 5 (Int32.toNatClampNeg (s1.v 11))) - 30)]) (rest := []) C (cr_emit hc _) (cwV 2 hts gX11_unit_X11_emit rfl rfl rfl (by decide +kernel) ⟨Nat.le_of_ble_eq_true rfl, Nat.le_of_ble_eq_true rfl⟩) (q_preV hK hP (ci := 11) (q0 := 0) rfl rfl rfl (q_preF hN hK hP hD)) rfl rfl hl.1 rfl (lv_room (Nat.le_of_ble_eq_true rfl)) dX11_unit_78 ⟨Nat.le_of_ble_eq_true rfl, Nat.le_of_ble_eq_true rfl⟩) hD hS hA (fun w1 H locs hw hP hD hS => ?_)
          subst hw
          refine lv_aload_n hx hb dX11_unit_81 rfl (lv_at hl 0 rfl) ?_
          obtain ⟨s11, hc, hB⟩ := bindP_inv hB
          refine q_govF (va_runV (As := []) (rest := []) C (cr_goesOn hc _) (cwV 0 hts gX11_unit_X11_goesOn rfl rfl rfl (by decide +kernel) ⟨Nat.le_of_ble_eq_true rfl, Nat.le_of_ble_eq_true rfl⟩) (q_preV hK hP (ci := 11) (q0 := 0) rfl rfl rfl (q_preF hN hK hP hD)) rfl rfl hl.1 rfl (lv_room (Nat.le_of_ble_eq_true rfl)) dX11_unit_82 ⟨Nat.le_of_ble_eq_true rfl, Nat.le_of_ble_eq_true rfl⟩) hD hS hA (fun w1 H locs hw hP hD hS => ?_)
          subst hw
          refine lv_goto (tgt := 93) hx hb dX11_unit_85 (by decide) ?_
          exact q_vret C hr hlocks hK hP hD hS (Nat.le_of_ble_eq_true rfl) (Nat.le_of_ble_eq_true rfl) dX11_unit_93 (by cases hB; rfl)
  · have hB := if_n hB c3
    refine lv_aload_n hx hb dX11_unit_8 rfl (lv_at hl 0 rfl) ?_
    refine lv_iconst (v := 0) hx hb dX11_unit_9 (by decide) ?_
    refine lv_aload_n hx hb dX11_unit_10 rfl (lv_at hl 0 rfl) ?_
    refine q_get (v := .ref (a 7)) C inX11_unit_X11 hK hP 0 rfl rfl 7 (by decide) rfl LX11_unit_27 rfl dX11_unit_11 ?_
    refine lv_aload_n hx hb dX11_unit_14 rfl (lv_at hl 0 rfl) ?_
    refine q_get (v := .int (s1.v 11)) C inX11_unit_X11 hK hP 0 rfl rfl 11 (by decide) rfl LX11_unit_188 rfl dX11_unit_15 ?_
    obtain ⟨g12, hB⟩ := guard_inv hB
    refine q_iald (x := (s1.f 7 (Int32.toNatClampNeg (s1.v 11)))) C hK hP 5 1 rfl rfl (vpb_in g12) dX11_unit_18 rfl ?_
    obtain ⟨s13, hc, hB⟩ := bindP_inv hB
    refine q_govF (va_runV (As := [.int 0, .int (s1.f 7 (Int32.toNatClampNeg (s1.v 11)))]) (rest := []) C (cr_emit hc _) (cwV 2 hts gX11_unit_X11_emit rfl rfl rfl (by decide +kernel) ⟨Nat.le_of_ble_eq_true rfl, Nat.le_of_ble_eq_true rfl⟩) (q_preV hK hP (ci := 11) (q0 := 0) rfl rfl rfl (q_preF hN hK hP hD)) rfl rfl hl.1 rfl (lv_room (Nat.le_of_ble_eq_true rfl)) dX11_unit_19 ⟨Nat.le_of_ble_eq_true rfl, Nat.le_of_ble_eq_true rfl⟩) hD hS hA (fun w1 H locs hw hP hD hS => ?_)
    subst hw
    refine lv_aload_n hx hb dX11_unit_22 rfl (lv_at hl 0 rfl) ?_
    obtain ⟨s14, hc, hB⟩ := bindP_inv hB
    refine q_govF (va_runV (As := []) (rest := []) C (cr_goesOn hc _) (cwV 0 hts gX11_unit_X11_goesOn rfl rfl rfl (by decide +kernel) ⟨Nat.le_of_ble_eq_true rfl, Nat.le_of_ble_eq_true rfl⟩) (q_preV hK hP (ci := 11) (q0 := 0) rfl rfl rfl (q_preF hN hK hP hD)) rfl rfl hl.1 rfl (lv_room (Nat.le_of_ble_eq_true rfl)) dX11_unit_23 ⟨Nat.le_of_ble_eq_true rfl, Nat.le_of_ble_eq_true rfl⟩) hD hS hA (fun w1 H locs hw hP hD hS => ?_)
    subst hw
    refine lv_goto (tgt := 93) hx hb dX11_unit_26 (by decide) ?_
    exact q_vret C hr hlocks hK hP hD hS (Nat.le_of_ble_eq_true rfl) (Nat.le_of_ble_eq_true rfl) dX11_unit_93 (by cases hB; rfl)
theorem cr_unit {l : Launch} {dC : Nat → ClassId} {dI : Nat → Nat → Nat} {cB cI cJ cZ cS : ClassId} {h : Nat} {a : Nat → Nat} {s' : RS} {s : RS} (hB : r_unit s = some s') : CV l yX11_unit wsX11_unit ({ frames := 2, cells := 0, slots := 0, locals := 41 }) (dC, dI) (tysA cB cI cJ cZ cS) (mwS cB cI cJ cZ h a s) [.ref h] (fun u => u = (mwS cB cI cJ cZ h a s')) :=
  CV_of (cc := cX11_unit) (maxL := 1) (ret := none) (by decide) rfl (Nat.le_of_ble_eq_true rfl) (br_unit _ hB)
theorem LX11_comesOut_264 : Cond.fieldLink RX11 264 "GuessFerryModel" "waiting" "I" ∈ wsX11_comesOut := by decide +kernel
theorem LX11_comesOut_89 : Cond.fieldLink RX11 89 "GuessFerryModel" "waits" "[I" ∈ wsX11_comesOut := by decide +kernel
theorem inX11_comesOut_X11 : ∀ w ∈ u_ws RX11 TX11 58, w ∈ wsX11_comesOut := by decide +kernel
set_option maxHeartbeats 4000000 in
set_option maxRecDepth 100000 in
theorem br_comesOut_84 {l : Launch} {dC : Nat → ClassId} {dI : Nat → Nat → Nat} {cB cI cJ cZ cS : ClassId} {h : Nat} {a : Nat → Nat} {as : List Value} {s' : RS} {k0 : RS → Int32 → Option RS} (hk0 : ∀ (s : RS) (x1 : Int32), k0 s x1 = some s' → BlkV l yX11_comesOut wsX11_comesOut ({ frames := 1, cells := 0, slots := 0, locals := 22 }) cX11_comesOut 3 none (dC, dI) (tysA cB cI cJ cZ cS) as 0 (mwS cB cI cJ cZ h a s) [(0, .ref h), (1, .int x1)] [] (fun u => u = (mwS cB cI cJ cZ h a s'))) (s : RS) (x1 : Int32) (t0 : Int32) (hB : r_comesOut_84 k0 s x1 t0 = some s') : BlkV l yX11_comesOut wsX11_comesOut ({ frames := 1, cells := 0, slots := 0, locals := 22 }) cX11_comesOut 3 none (dC, dI) (tysA cB cI cJ cZ cS) as 84 (mwS cB cI cJ cZ h a s) [(0, .ref h), (1, .int x1)] [.int t0, .ref h] (fun u => u = (mwS cB cI cJ cZ h a s')) := by
  intro p e s0 m below meth c A E H locs ls hP hD hS hl
  obtain ⟨C, hr, hlocks, hA, hK, hN⟩ := id E
  obtain ⟨hx, hb, hml, hown, hts⟩ := id C
  unfold r_comesOut_84 at hB
  refine lv_iconst (v := 0) hx hb dX11_comesOut_84 (by decide) ?_
  obtain ⟨s1, hc, hB⟩ := bindP_inv hB
  refine q_govF (va_runV (As := [.int t0, .int 0]) (rest := []) C (cr_emit hc _) (cwV 2 hts gX11_comesOut_X11_emit rfl rfl rfl (by decide +kernel) ⟨Nat.le_of_ble_eq_true rfl, Nat.le_of_ble_eq_true rfl⟩) (q_preV hK hP (ci := 11) (q0 := 0) rfl rfl rfl (q_preF hN hK hP hD)) rfl rfl hl.1 rfl (lv_room (Nat.le_of_ble_eq_true rfl)) dX11_comesOut_85 ⟨Nat.le_of_ble_eq_true rfl, Nat.le_of_ble_eq_true rfl⟩) hD hS hA (fun w1 H locs hw hP hD hS => ?_)
  subst hw
  refine lv_goto (tgt := 0) hx hb dX11_comesOut_88 (by decide) ?_
  exact hk0 _ _ hB p e s0 m below meth c A E H locs ls hP hD hS (lv_sub hl [0, 1] rfl)
set_option maxHeartbeats 4000000 in
set_option maxRecDepth 100000 in
theorem br_comesOut_42 {l : Launch} {dC : Nat → ClassId} {dI : Nat → Nat → Nat} {cB cI cJ cZ cS : ClassId} {h : Nat} {a : Nat → Nat} {as : List Value} {s' : RS} {k0 : RS → Int32 → Option RS} (hk0 : ∀ (s : RS) (x1 : Int32), k0 s x1 = some s' → BlkV l yX11_comesOut wsX11_comesOut ({ frames := 1, cells := 0, slots := 0, locals := 22 }) cX11_comesOut 3 none (dC, dI) (tysA cB cI cJ cZ cS) as 0 (mwS cB cI cJ cZ h a s) [(0, .ref h), (1, .int x1)] [] (fun u => u = (mwS cB cI cJ cZ h a s'))) (s : RS) (x1 : Int32) (x2 : Int32) (hB : r_comesOut_42 k0 s x1 x2 = some s') : BlkV l yX11_comesOut wsX11_comesOut ({ frames := 1, cells := 0, slots := 0, locals := 22 }) cX11_comesOut 3 none (dC, dI) (tysA cB cI cJ cZ cS) as 42 (mwS cB cI cJ cZ h a s) [(0, .ref h), (1, .int x1), (2, .int x2)] [] (fun u => u = (mwS cB cI cJ cZ h a s')) := by
  intro p e s0 m below meth c A E H locs ls hP hD hS hl
  obtain ⟨C, hr, hlocks, hA, hK, hN⟩ := id E
  obtain ⟨hx, hb, hml, hown, hts⟩ := id C
  unfold r_comesOut_42 at hB
  refine lv_aload_n hx hb dX11_comesOut_42 rfl (lv_at hl 0 rfl) ?_
  refine lv_dup hx hb dX11_comesOut_43 rfl ?_
  refine q_get (v := .int (s.v 39)) C inX11_comesOut_X11 hK hP 0 rfl rfl 39 (by decide) rfl LX11_comesOut_264 rfl dX11_comesOut_44 ?_
  refine lv_iconst (v := 1) hx hb dX11_comesOut_47 (by decide) ?_
  refine lv_isub hx hb dX11_comesOut_48 ?_
  obtain ⟨s1, hs2, hB⟩ := letS_inv hB
  refine q_put (ty := .int) (w2 := (mwS cB cI cJ cZ h a s1)) tyX11 tyX11_ok nmX11 C inX11_comesOut_X11 hK hP hD hS 0 rfl rfl 39 (by decide) rfl LX11_comesOut_264 rfl (by decide +kernel) (rfl) rfl (Nat.le_of_ble_eq_true rfl) dX11_comesOut_49 (mwS_v39 hs2) (fun H locs hP hD hS => ?_)
  refine lv_aload_n hx hb dX11_comesOut_52 rfl (lv_at hl 0 rfl) ?_
  refine lv_iload_n hx hb dX11_comesOut_53 rfl (lv_at hl 2 rfl) ?_
  refine lv_bipush (v := 8) hx hb dX11_comesOut_54 (by decide) ?_
  refine lv_icmp_ne (tgt := 63) hx hb dX11_comesOut_56 (by decide) (fun c3 => ?_) (fun c3 => ?_)
  · have hB := if_n hB c3
    refine lv_iload_n hx hb dX11_comesOut_63 rfl (lv_at hl 2 rfl) ?_
    refine lv_bipush (v := 9) hx hb dX11_comesOut_64 (by decide) ?_
    refine lv_icmp_ne (tgt := 73) hx hb dX11_comesOut_66 (by decide) (fun c4 => ?_) (fun c4 => ?_)
    · have hB := if_n hB c4
      refine lv_iload_n hx hb dX11_comesOut_73 rfl (lv_at hl 2 rfl) ?_
      refine lv_bipush (v := 10) hx hb dX11_comesOut_74 (by decide) ?_
      refine lv_icmp_ne (tgt := 83) hx hb dX11_comesOut_76 (by decide) (fun c5 => ?_) (fun c5 => ?_)
      · have hB := if_n hB c5
        refine lv_iconst (v := 5) hx hb dX11_comesOut_83 (by decide) ?_
        exact br_comesOut_84 (hk0) _ _ _ hB p e s0 m below meth c A E H locs ls hP hD hS (lv_sub hl [0, 1] rfl)
      · have hB := if_p hB c5
        refine lv_iconst (v := 4) hx hb dX11_comesOut_79 (by decide) ?_
        refine lv_goto (tgt := 84) hx hb dX11_comesOut_80 (by decide) ?_
        exact br_comesOut_84 (hk0) _ _ _ hB p e s0 m below meth c A E H locs ls hP hD hS (lv_sub hl [0, 1] rfl)
    · have hB := if_p hB c4
      refine lv_iconst (v := 3) hx hb dX11_comesOut_69 (by decide) ?_
      refine lv_goto (tgt := 84) hx hb dX11_comesOut_70 (by decide) ?_
      exact br_comesOut_84 (hk0) _ _ _ hB p e s0 m below meth c A E H locs ls hP hD hS (lv_sub hl [0, 1] rfl)
  · have hB := if_p hB c3
    refine lv_iconst (v := 2) hx hb dX11_comesOut_59 (by decide) ?_
    refine lv_goto (tgt := 84) hx hb dX11_comesOut_60 (by decide) ?_
    exact br_comesOut_84 (hk0) _ _ _ hB p e s0 m below meth c A E H locs ls hP hD hS (lv_sub hl [0, 1] rfl)
set_option maxHeartbeats 4000000 in
set_option maxRecDepth 100000 in
theorem br_comesOut_0 {l : Launch} {dC : Nat → ClassId} {dI : Nat → Nat → Nat} {cB cI cJ cZ cS : ClassId} {h : Nat} {a : Nat → Nat} {as : List Value} {s' : RS} {k0 : RS → Int32 → Option RS} (hk0 : ∀ (s : RS) (x1 : Int32), k0 s x1 = some s' → BlkV l yX11_comesOut wsX11_comesOut ({ frames := 1, cells := 0, slots := 0, locals := 22 }) cX11_comesOut 3 none (dC, dI) (tysA cB cI cJ cZ cS) as 0 (mwS cB cI cJ cZ h a s) [(0, .ref h), (1, .int x1)] [] (fun u => u = (mwS cB cI cJ cZ h a s'))) (s : RS) (x1 : Int32) (hB : r_comesOut_0 k0 s x1 = some s') : BlkV l yX11_comesOut wsX11_comesOut ({ frames := 1, cells := 0, slots := 0, locals := 22 }) cX11_comesOut 3 none (dC, dI) (tysA cB cI cJ cZ cS) as 0 (mwS cB cI cJ cZ h a s) [(0, .ref h), (1, .int x1)] [] (fun u => u = (mwS cB cI cJ cZ h a s')) := by
  intro p e s0 m below meth c A E H locs ls hP hD hS hl
  obtain ⟨C, hr, hlocks, hA, hK, hN⟩ := id E
  obtain ⟨hx, hb, hml, hown, hts⟩ := id C
  unfold r_comesOut_0 at hB
  refine lv_aload_n hx hb dX11_comesOut_0 rfl (lv_at hl 0 rfl) ?_
  refine q_get (v := .int (s.v 39)) C inX11_comesOut_X11 hK hP 0 rfl rfl 39 (by decide) rfl LX11_comesOut_264 rfl dX11_comesOut_1 ?_
  refine lv_if_le (tgt := 91) hx hb dX11_comesOut_4 (by decide) (fun c1 => ?_) (fun c1 => ?_)
  · have hB := if_p hB c1
    exact q_vret C hr hlocks hK hP hD hS (Nat.le_of_ble_eq_true rfl) (Nat.le_of_ble_eq_true rfl) dX11_comesOut_91 (by cases hB; rfl)
  · have hB := if_n hB c1
    refine lv_aload_n hx hb dX11_comesOut_7 rfl (lv_at hl 0 rfl) ?_
    refine q_get (v := .ref (a 38)) C inX11_comesOut_X11 hK hP 0 rfl rfl 38 (by decide) rfl LX11_comesOut_89 rfl dX11_comesOut_8 ?_
    refine lv_aload_n hx hb dX11_comesOut_11 rfl (lv_at hl 0 rfl) ?_
    refine q_get (v := .int (s.v 39)) C inX11_comesOut_X11 hK hP 0 rfl rfl 39 (by decide) rfl LX11_comesOut_264 rfl dX11_comesOut_12 ?_
    refine lv_iconst (v := 1) hx hb dX11_comesOut_15 (by decide) ?_
    refine lv_isub hx hb dX11_comesOut_16 ?_
    obtain ⟨g2, hB⟩ := guard_inv hB
    refine q_iald (x := (s.f 38 (Int32.toNatClampNeg ((s.v 39) - 1)))) C hK hP 24 1 rfl rfl (vpb_in g2) dX11_comesOut_17 rfl ?_
    refine lv_istore_n (lv' := [(2, .int (s.f 38 (Int32.toNatClampNeg ((s.v 39) - 1)))), (0, .ref h), (1, .int x1)]) hx hb dX11_comesOut_18 rfl hl (by decide) rfl (fun ls hl => ?_)
    refine lv_iload_n hx hb dX11_comesOut_19 rfl (lv_at hl 0 rfl) ?_
    refine lv_bipush (v := 6) hx hb dX11_comesOut_20 (by decide) ?_
    refine lv_icmp_eq (tgt := 41) hx hb dX11_comesOut_22 (by decide) (fun c3 => ?_) (fun c3 => ?_)
    · have hB := if_p hB c3
      exact q_vret C hr hlocks hK hP hD hS (Nat.le_of_ble_eq_true rfl) (Nat.le_of_ble_eq_true rfl) dX11_comesOut_41 (by cases hB; rfl)
    · have hB := if_n hB c3
      refine lv_iload_n hx hb dX11_comesOut_25 rfl (lv_at hl 2 rfl) ?_
      refine lv_if_eq (tgt := 42) hx hb dX11_comesOut_26 (by decide) (fun c4 => ?_) (fun c4 => ?_)
      · have hB := if_p hB c4
        exact br_comesOut_42 (hk0) _ _ _ hB p e s0 m below meth c A E H locs ls hP hD hS (lv_sub hl [1, 2, 0] rfl)
      · have hB := if_n hB c4
        refine lv_iload_n hx hb dX11_comesOut_29 rfl (lv_at hl 0 rfl) ?_
        refine lv_bipush (v := 8) hx hb dX11_comesOut_30 (by decide) ?_
        refine lv_icmp_eq (tgt := 41) hx hb dX11_comesOut_32 (by decide) (fun c5 => ?_) (fun c5 => ?_)
        · have hB := if_p hB c5
          exact q_vret C hr hlocks hK hP hD hS (Nat.le_of_ble_eq_true rfl) (Nat.le_of_ble_eq_true rfl) dX11_comesOut_41 (by cases hB; rfl)
        · have hB := if_n hB c5
          refine lv_iload_n hx hb dX11_comesOut_35 rfl (lv_at hl 0 rfl) ?_
          refine lv_bipush (v := 9) hx hb dX11_comesOut_36 (by decide) ?_
          refine lv_icmp_ne (tgt := 42) hx hb dX11_comesOut_38 (by decide) (fun c6 => ?_) (fun c6 => ?_)
          · have hB := if_n hB c6
            exact br_comesOut_42 (hk0) _ _ _ hB p e s0 m below meth c A E H locs ls hP hD hS (lv_sub hl [1, 2, 0] rfl)
          · have hB := if_p hB c6
            exact q_vret C hr hlocks hK hP hD hS (Nat.le_of_ble_eq_true rfl) (Nat.le_of_ble_eq_true rfl) dX11_comesOut_41 (by cases hB; rfl)
theorem br_comesOut_0L {l : Launch} {dC : Nat → ClassId} {dI : Nat → Nat → Nat} {cB cI cJ cZ cS : ClassId} {h : Nat} {a : Nat → Nat} {as : List Value} {s' : RS} : ∀ (n : Nat) (s : RS) (x1 : Int32), r_comesOut_0L n s x1 = some s' → BlkV l yX11_comesOut wsX11_comesOut ({ frames := 1, cells := 0, slots := 0, locals := 22 }) cX11_comesOut 3 none (dC, dI) (tysA cB cI cJ cZ cS) as 0 (mwS cB cI cJ cZ h a s) [(0, .ref h), (1, .int x1)] [] (fun u => u = (mwS cB cI cJ cZ h a s')) := by
  intro n
  induction n with
  | zero => intro s x1 hB; exact none_ne hB
  | succ n ih => intro s x1 hB; exact br_comesOut_0 ih _ _ hB
theorem cr_comesOut {l : Launch} {dC : Nat → ClassId} {dI : Nat → Nat → Nat} {cB cI cJ cZ cS : ClassId} {h : Nat} {a : Nat → Nat} {s' : RS} {s : RS} {x1 : Int32} (hB : r_comesOut s x1 = some s') : CV l yX11_comesOut wsX11_comesOut ({ frames := 1, cells := 0, slots := 0, locals := 22 }) (dC, dI) (tysA cB cI cJ cZ cS) (mwS cB cI cJ cZ h a s) [.ref h, .int x1] (fun u => u = (mwS cB cI cJ cZ h a s')) :=
  CV_of (cc := cX11_comesOut) (maxL := 3) (ret := none) (by decide) rfl (Nat.le_of_ble_eq_true rfl) (br_comesOut_0L fu _ _ hB)
theorem LX11_expression_185 : Cond.fieldLink RX11 185 "GuessFerryModel" "fault" "I" ∈ wsX11_expression := by decide +kernel
theorem LX11_expression_188 : Cond.fieldLink RX11 188 "GuessFerryModel" "t" "I" ∈ wsX11_expression := by decide +kernel
theorem LX11_expression_20 : Cond.fieldLink RX11 20 "GuessFerryModel" "tKind" "[I" ∈ wsX11_expression := by decide +kernel
theorem LX11_expression_212 : Cond.fieldLink RX11 212 "GuessFerryModel" "open" "I" ∈ wsX11_expression := by decide +kernel
theorem LX11_expression_264 : Cond.fieldLink RX11 264 "GuessFerryModel" "waiting" "I" ∈ wsX11_expression := by decide +kernel
theorem LX11_expression_89 : Cond.fieldLink RX11 89 "GuessFerryModel" "waits" "[I" ∈ wsX11_expression := by decide +kernel
theorem inX11_expression_X11 : ∀ w ∈ u_ws RX11 TX11 58, w ∈ wsX11_expression := by decide +kernel
set_option maxHeartbeats 4000000 in
set_option maxRecDepth 100000 in
theorem br_expression_234 {l : Launch} {dC : Nat → ClassId} {dI : Nat → Nat → Nat} {cB cI cJ cZ cS : ClassId} {h : Nat} {a : Nat → Nat} {as : List Value} {s' : RS} {k12 : RS → Int32 → Int32 → Option RS} (hk12 : ∀ (s : RS) (x1 : Int32) (x2 : Int32), k12 s x1 x2 = some s' → BlkV l yX11_expression wsX11_expression ({ frames := 3, cells := 0, slots := 0, locals := 61 }) cX11_expression 3 none (dC, dI) (tysA cB cI cJ cZ cS) as 12 (mwS cB cI cJ cZ h a s) [(0, .ref h), (1, .int x1), (2, .int x2)] [] (fun u => u = (mwS cB cI cJ cZ h a s'))) (s : RS) (x1 : Int32) (x2 : Int32) (t0 : Int32) (hB : r_expression_234 k12 s x1 x2 t0 = some s') : BlkV l yX11_expression wsX11_expression ({ frames := 3, cells := 0, slots := 0, locals := 61 }) cX11_expression 3 none (dC, dI) (tysA cB cI cJ cZ cS) as 234 (mwS cB cI cJ cZ h a s) [(0, .ref h), (1, .int x1), (2, .int x2)] [.int t0, .ref h] (fun u => u = (mwS cB cI cJ cZ h a s')) := by
  intro p e s0 m below meth c A E H locs ls hP hD hS hl
  obtain ⟨C, hr, hlocks, hA, hK, hN⟩ := id E
  obtain ⟨hx, hb, hml, hown, hts⟩ := id C
  unfold r_expression_234 at hB
  obtain ⟨s1, hc, hB⟩ := bindP_inv hB
  refine q_govF (va_runV (As := [.int t0]) (rest := []) C (cr_comesOut hc _) (cwV 1 hts gX11_expression_X11_comesOut rfl rfl rfl (by decide +kernel) ⟨Nat.le_of_ble_eq_true rfl, Nat.le_of_ble_eq_true rfl⟩) (q_preV hK hP (ci := 11) (q0 := 0) rfl rfl rfl (q_preF hN hK hP hD)) rfl rfl hl.1 rfl (lv_room (Nat.le_of_ble_eq_true rfl)) dX11_expression_234 ⟨Nat.le_of_ble_eq_true rfl, Nat.le_of_ble_eq_true rfl⟩) hD hS hA (fun w1 H locs hw hP hD hS => ?_)
  subst hw
  refine lv_aload_n hx hb dX11_expression_237 rfl (lv_at hl 0 rfl) ?_
  refine q_get (v := .ref (a 38)) C inX11_expression_X11 hK hP 0 rfl rfl 38 (by decide) rfl LX11_expression_89 rfl dX11_expression_238 ?_
  refine lv_aload_n hx hb dX11_expression_241 rfl (lv_at hl 0 rfl) ?_
  refine q_get (v := .int (s1.v 39)) C inX11_expression_X11 hK hP 0 rfl rfl 39 (by decide) rfl LX11_expression_264 rfl dX11_expression_242 ?_
  refine lv_aload_n hx hb dX11_expression_245 rfl (lv_at hl 0 rfl) ?_
  refine q_get (v := .ref (a 5)) C inX11_expression_X11 hK hP 0 rfl rfl 5 (by decide) rfl LX11_expression_20 rfl dX11_expression_246 ?_
  refine lv_aload_n hx hb dX11_expression_249 rfl (lv_at hl 0 rfl) ?_
  refine q_get (v := .int (s1.v 11)) C inX11_expression_X11 hK hP 0 rfl rfl 11 (by decide) rfl LX11_expression_188 rfl dX11_expression_250 ?_
  obtain ⟨g2, hB⟩ := guard_inv hB
  refine q_iald (x := (s1.f 5 (Int32.toNatClampNeg (s1.v 11)))) C hK hP 3 1 rfl rfl (vpb_in g2) dX11_expression_253 rfl ?_
  obtain ⟨g3, hB⟩ := guard_inv hB
  obtain ⟨s4, hs5, hB⟩ := letS_inv hB
  refine q_iast (f2 := (upd (s1.f 38) (Int32.toNatClampNeg (s1.v 39)) (s1.f 5 (Int32.toNatClampNeg (s1.v 11))))) (w2 := (mwS cB cI cJ cZ h a s4)) C hK hP hD hS 24 1 rfl rfl (vpb_in g3) dX11_expression_254 rfl (mwS_f38 hs5) (fun H locs hP hD hS => ?_)
  refine lv_aload_n hx hb dX11_expression_255 rfl (lv_at hl 0 rfl) ?_
  refine lv_dup hx hb dX11_expression_256 rfl ?_
  refine q_get (v := .int (s4.v 39)) C inX11_expression_X11 hK hP 0 rfl rfl 39 (by decide) rfl LX11_expression_264 rfl dX11_expression_257 ?_
  refine lv_iconst (v := 1) hx hb dX11_expression_260 (by decide) ?_
  refine lv_iadd hx hb dX11_expression_261 ?_
  obtain ⟨s6, hs7, hB⟩ := letS_inv hB
  refine q_put (ty := .int) (w2 := (mwS cB cI cJ cZ h a s6)) tyX11 tyX11_ok nmX11 C inX11_expression_X11 hK hP hD hS 0 rfl rfl 39 (by decide) rfl LX11_expression_264 rfl (by decide +kernel) (rfl) rfl (Nat.le_of_ble_eq_true rfl) dX11_expression_262 (mwS_v39 hs7) (fun H locs hP hD hS => ?_)
  refine lv_aload_n hx hb dX11_expression_265 rfl (lv_at hl 0 rfl) ?_
  obtain ⟨s8, hc, hB⟩ := bindP_inv hB
  refine q_govF (va_runV (As := []) (rest := []) C (cr_goesOn hc _) (cwV 0 hts gX11_expression_X11_goesOn rfl rfl rfl (by decide +kernel) ⟨Nat.le_of_ble_eq_true rfl, Nat.le_of_ble_eq_true rfl⟩) (q_preV hK hP (ci := 11) (q0 := 0) rfl rfl rfl (q_preF hN hK hP hD)) rfl rfl hl.1 rfl (lv_room (Nat.le_of_ble_eq_true rfl)) dX11_expression_266 ⟨Nat.le_of_ble_eq_true rfl, Nat.le_of_ble_eq_true rfl⟩) hD hS hA (fun w1 H locs hw hP hD hS => ?_)
  subst hw
  refine lv_goto (tgt := 12) hx hb dX11_expression_269 (by decide) ?_
  exact hk12 _ _ _ hB p e s0 m below meth c A E H locs ls hP hD hS (lv_sub hl [0, 1, 2] rfl)
set_option maxHeartbeats 4000000 in
set_option maxRecDepth 100000 in
theorem br_expression_229 {l : Launch} {dC : Nat → ClassId} {dI : Nat → Nat → Nat} {cB cI cJ cZ cS : ClassId} {h : Nat} {a : Nat → Nat} {as : List Value} {s' : RS} {k12 : RS → Int32 → Int32 → Option RS} (hk12 : ∀ (s : RS) (x1 : Int32) (x2 : Int32), k12 s x1 x2 = some s' → BlkV l yX11_expression wsX11_expression ({ frames := 3, cells := 0, slots := 0, locals := 61 }) cX11_expression 3 none (dC, dI) (tysA cB cI cJ cZ cS) as 12 (mwS cB cI cJ cZ h a s) [(0, .ref h), (1, .int x1), (2, .int x2)] [] (fun u => u = (mwS cB cI cJ cZ h a s'))) (s : RS) (x1 : Int32) (x2 : Int32) (hB : r_expression_229 k12 s x1 x2 = some s') : BlkV l yX11_expression wsX11_expression ({ frames := 3, cells := 0, slots := 0, locals := 61 }) cX11_expression 3 none (dC, dI) (tysA cB cI cJ cZ cS) as 229 (mwS cB cI cJ cZ h a s) [(0, .ref h), (1, .int x1), (2, .int x2)] [.ref h] (fun u => u = (mwS cB cI cJ cZ h a s')) := by
  intro p e s0 m below meth c A E H locs ls hP hD hS hl
  obtain ⟨C, hr, hlocks, hA, hK, hN⟩ := id E
  obtain ⟨hx, hb, hml, hown, hts⟩ := id C
  unfold r_expression_229 at hB
  refine lv_iconst (v := 1) hx hb dX11_expression_229 (by decide) ?_
  refine lv_goto (tgt := 234) hx hb dX11_expression_230 (by decide) ?_
  exact br_expression_234 (hk12) _ _ _ _ hB p e s0 m below meth c A E H locs ls hP hD hS (lv_sub hl [0, 1, 2] rfl)
set_option maxHeartbeats 4000000 in
set_option maxRecDepth 100000 in
theorem br_expression_204 {l : Launch} {dC : Nat → ClassId} {dI : Nat → Nat → Nat} {cB cI cJ cZ cS : ClassId} {h : Nat} {a : Nat → Nat} {as : List Value} {s' : RS} (s : RS) (hB : r_expression_204 s = some s') : BlkV l yX11_expression wsX11_expression ({ frames := 3, cells := 0, slots := 0, locals := 61 }) cX11_expression 3 none (dC, dI) (tysA cB cI cJ cZ cS) as 204 (mwS cB cI cJ cZ h a s) [(0, .ref h)] [] (fun u => u = (mwS cB cI cJ cZ h a s')) := by
  intro p e s0 m below meth c A E H locs ls hP hD hS hl
  obtain ⟨C, hr, hlocks, hA, hK, hN⟩ := id E
  obtain ⟨hx, hb, hml, hown, hts⟩ := id C
  unfold r_expression_204 at hB
  refine lv_aload_n hx hb dX11_expression_204 rfl (lv_at hl 0 rfl) ?_
  refine lv_iconst (v := 0) hx hb dX11_expression_205 (by decide) ?_
  obtain ⟨s1, hc, hB⟩ := bindP_inv hB
  refine q_govF (va_runV (As := [.int 0]) (rest := []) C (cr_comesOut hc _) (cwV 1 hts gX11_expression_X11_comesOut rfl rfl rfl (by decide +kernel) ⟨Nat.le_of_ble_eq_true rfl, Nat.le_of_ble_eq_true rfl⟩) (q_preV hK hP (ci := 11) (q0 := 0) rfl rfl rfl (q_preF hN hK hP hD)) rfl rfl hl.1 rfl (lv_room (Nat.le_of_ble_eq_true rfl)) dX11_expression_206 ⟨Nat.le_of_ble_eq_true rfl, Nat.le_of_ble_eq_true rfl⟩) hD hS hA (fun w1 H locs hw hP hD hS => ?_)
  subst hw
  exact q_vret C hr hlocks hK hP hD hS (Nat.le_of_ble_eq_true rfl) (Nat.le_of_ble_eq_true rfl) dX11_expression_209 (by cases hB; rfl)
set_option maxHeartbeats 4000000 in
set_option maxRecDepth 100000 in
theorem br_expression_186 {l : Launch} {dC : Nat → ClassId} {dI : Nat → Nat → Nat} {cB cI cJ cZ cS : ClassId} {h : Nat} {a : Nat → Nat} {as : List Value} {s' : RS} {k12 : RS → Int32 → Int32 → Option RS} (hk12 : ∀ (s : RS) (x1 : Int32) (x2 : Int32), k12 s x1 x2 = some s' → BlkV l yX11_expression wsX11_expression ({ frames := 3, cells := 0, slots := 0, locals := 61 }) cX11_expression 3 none (dC, dI) (tysA cB cI cJ cZ cS) as 12 (mwS cB cI cJ cZ h a s) [(0, .ref h), (1, .int x1), (2, .int x2)] [] (fun u => u = (mwS cB cI cJ cZ h a s'))) (s : RS) (x1 : Int32) (t0 : Int32) (hB : r_expression_186 k12 s x1 t0 = some s') : BlkV l yX11_expression wsX11_expression ({ frames := 3, cells := 0, slots := 0, locals := 61 }) cX11_expression 3 none (dC, dI) (tysA cB cI cJ cZ cS) as 186 (mwS cB cI cJ cZ h a s) [(0, .ref h), (1, .int x1)] [.int t0] (fun u => u = (mwS cB cI cJ cZ h a s')) := by
  intro p e s0 m below meth c A E H locs ls hP hD hS hl
  obtain ⟨C, hr, hlocks, hA, hK, hN⟩ := id E
  obtain ⟨hx, hb, hml, hown, hts⟩ := id C
  unfold r_expression_186 at hB
  refine lv_istore_n (lv' := [(2, .int t0), (0, .ref h), (1, .int x1)]) hx hb dX11_expression_186 rfl hl (by decide) rfl (fun ls hl => ?_)
  refine lv_iload_n hx hb dX11_expression_187 rfl (lv_at hl 0 rfl) ?_
  refine lv_if_ne (tgt := 210) hx hb dX11_expression_188 (by decide) (fun c1 => ?_) (fun c1 => ?_)
  · have hB := if_n hB c1
    refine lv_aload_n hx hb dX11_expression_210 rfl (lv_at hl 1 rfl) ?_
    refine lv_aload_n hx hb dX11_expression_211 rfl (lv_at hl 1 rfl) ?_
    refine lv_bipush (v := 10) hx hb dX11_expression_212 (by decide) ?_
    obtain ⟨q_, s2, hc, hB⟩ := bindI_inv hB
    refine q_goiF (va_runV (As := [.int 10]) (rest := [.ref h]) C (cr_is hc _) (cwV 1 hts gX11_expression_X11_is rfl rfl rfl (by decide +kernel) ⟨Nat.le_of_ble_eq_true rfl, Nat.le_of_ble_eq_true rfl⟩) (q_preV hK hP (ci := 11) (q0 := 0) rfl rfl rfl (q_preF hN hK hP hD)) rfl rfl hl.1 rfl (lv_room (Nat.le_of_ble_eq_true rfl)) dX11_expression_214 ⟨Nat.le_of_ble_eq_true rfl, Nat.le_of_ble_eq_true rfl⟩) hD hS hA (fun r3 w1 H locs hw hP hD hS => ?_)
    obtain ⟨hq_, hw⟩ := hw; subst hw; subst hq_
    refine lv_if_ne (tgt := 229) hx hb dX11_expression_217 (by decide) (fun c4 => ?_) (fun c4 => ?_)
    · have hB := if_n hB c4
      exact br_expression_229 (hk12) _ _ _ hB p e s0 m below meth c A E H locs ls hP hD hS (lv_sub hl [1, 2, 0] rfl)
    · have hB := if_p hB c4
      refine lv_aload_n hx hb dX11_expression_220 rfl (lv_at hl 1 rfl) ?_
      refine lv_bipush (v := 15) hx hb dX11_expression_221 (by decide) ?_
      obtain ⟨q_, s5, hc, hB⟩ := bindI_inv hB
      refine q_goiF (va_runV (As := [.int 15]) (rest := [.ref h]) C (cr_is hc _) (cwV 1 hts gX11_expression_X11_is rfl rfl rfl (by decide +kernel) ⟨Nat.le_of_ble_eq_true rfl, Nat.le_of_ble_eq_true rfl⟩) (q_preV hK hP (ci := 11) (q0 := 0) rfl rfl rfl (q_preF hN hK hP hD)) rfl rfl hl.1 rfl (lv_room (Nat.le_of_ble_eq_true rfl)) dX11_expression_223 ⟨Nat.le_of_ble_eq_true rfl, Nat.le_of_ble_eq_true rfl⟩) hD hS hA (fun r6 w1 H locs hw hP hD hS => ?_)
      obtain ⟨hq_, hw⟩ := hw; subst hw; subst hq_
      refine lv_if_eq (tgt := 233) hx hb dX11_expression_226 (by decide) (fun c7 => ?_) (fun c7 => ?_)
      · have hB := if_p hB c7
        refine lv_iconst (v := 0) hx hb dX11_expression_233 (by decide) ?_
        exact br_expression_234 (hk12) _ _ _ _ hB p e s0 m below meth c A E H locs ls hP hD hS (lv_sub hl [1, 2, 0] rfl)
      · have hB := if_n hB c7
        exact br_expression_229 (hk12) _ _ _ hB p e s0 m below meth c A E H locs ls hP hD hS (lv_sub hl [1, 2, 0] rfl)
  · have hB := if_p hB c1
    refine lv_aload_n hx hb dX11_expression_191 rfl (lv_at hl 1 rfl) ?_
    refine q_get (v := .int (s.v 12)) C inX11_expression_X11 hK hP 0 rfl rfl 12 (by decide) rfl LX11_expression_212 rfl dX11_expression_192 ?_
    refine lv_iload_n hx hb dX11_expression_195 rfl (lv_at hl 2 rfl) ?_
    refine lv_icmp_le (tgt := 204) hx hb dX11_expression_196 (by decide) (fun c8 => ?_) (fun c8 => ?_)
    · have hB := if_p hB c8
      exact br_expression_204 _ hB p e s0 m below meth c A E H locs ls hP hD hS (lv_sub hl [1] rfl)
    · have hB := if_n hB c8
      refine lv_aload_n hx hb dX11_expression_199 rfl (lv_at hl 1 rfl) ?_
      refine lv_iconst (v := 1) hx hb dX11_expression_200 (by decide) ?_
      obtain ⟨s9, hc, hB⟩ := bindP_inv hB
      refine q_govF (va_runV (As := [.int 1]) (rest := []) C (cr_fail hc _) (cwV 1 hts gX11_expression_X11_fail rfl rfl rfl (by decide +kernel) ⟨Nat.le_of_ble_eq_true rfl, Nat.le_of_ble_eq_true rfl⟩) (q_preV hK hP (ci := 11) (q0 := 0) rfl rfl rfl (q_preF hN hK hP hD)) rfl rfl hl.1 rfl (lv_room (Nat.le_of_ble_eq_true rfl)) dX11_expression_201 ⟨Nat.le_of_ble_eq_true rfl, Nat.le_of_ble_eq_true rfl⟩) hD hS hA (fun w1 H locs hw hP hD hS => ?_)
      subst hw
      exact br_expression_204 _ hB p e s0 m below meth c A E H locs ls hP hD hS (lv_sub hl [1] rfl)
set_option maxHeartbeats 4000000 in
set_option maxRecDepth 100000 in
theorem br_expression_181 {l : Launch} {dC : Nat → ClassId} {dI : Nat → Nat → Nat} {cB cI cJ cZ cS : ClassId} {h : Nat} {a : Nat → Nat} {as : List Value} {s' : RS} {k12 : RS → Int32 → Int32 → Option RS} (hk12 : ∀ (s : RS) (x1 : Int32) (x2 : Int32), k12 s x1 x2 = some s' → BlkV l yX11_expression wsX11_expression ({ frames := 3, cells := 0, slots := 0, locals := 61 }) cX11_expression 3 none (dC, dI) (tysA cB cI cJ cZ cS) as 12 (mwS cB cI cJ cZ h a s) [(0, .ref h), (1, .int x1), (2, .int x2)] [] (fun u => u = (mwS cB cI cJ cZ h a s'))) (s : RS) (x1 : Int32) (hB : r_expression_181 k12 s x1 = some s') : BlkV l yX11_expression wsX11_expression ({ frames := 3, cells := 0, slots := 0, locals := 61 }) cX11_expression 3 none (dC, dI) (tysA cB cI cJ cZ cS) as 181 (mwS cB cI cJ cZ h a s) [(0, .ref h), (1, .int x1)] [] (fun u => u = (mwS cB cI cJ cZ h a s')) := by
  intro p e s0 m below meth c A E H locs ls hP hD hS hl
  obtain ⟨C, hr, hlocks, hA, hK, hN⟩ := id E
  obtain ⟨hx, hb, hml, hown, hts⟩ := id C
  unfold r_expression_181 at hB
  refine lv_iconst (v := 1) hx hb dX11_expression_181 (by decide) ?_
  refine lv_goto (tgt := 186) hx hb dX11_expression_182 (by decide) ?_
  exact br_expression_186 (hk12) _ _ _ hB p e s0 m below meth c A E H locs ls hP hD hS (lv_sub hl [0, 1] rfl)
set_option maxHeartbeats 4000000 in
set_option maxRecDepth 100000 in
theorem br_expression_145 {l : Launch} {dC : Nat → ClassId} {dI : Nat → Nat → Nat} {cB cI cJ cZ cS : ClassId} {h : Nat} {a : Nat → Nat} {as : List Value} {s' : RS} {k12 : RS → Int32 → Int32 → Option RS} (hk12 : ∀ (s : RS) (x1 : Int32) (x2 : Int32), k12 s x1 x2 = some s' → BlkV l yX11_expression wsX11_expression ({ frames := 3, cells := 0, slots := 0, locals := 61 }) cX11_expression 3 none (dC, dI) (tysA cB cI cJ cZ cS) as 12 (mwS cB cI cJ cZ h a s) [(0, .ref h), (1, .int x1), (2, .int x2)] [] (fun u => u = (mwS cB cI cJ cZ h a s'))) (s : RS) (x1 : Int32) (hB : r_expression_145 k12 s x1 = some s') : BlkV l yX11_expression wsX11_expression ({ frames := 3, cells := 0, slots := 0, locals := 61 }) cX11_expression 3 none (dC, dI) (tysA cB cI cJ cZ cS) as 145 (mwS cB cI cJ cZ h a s) [(0, .ref h), (1, .int x1)] [] (fun u => u = (mwS cB cI cJ cZ h a s')) := by
  intro p e s0 m below meth c A E H locs ls hP hD hS hl
  obtain ⟨C, hr, hlocks, hA, hK, hN⟩ := id E
  obtain ⟨hx, hb, hml, hown, hts⟩ := id C
  unfold r_expression_145 at hB
  refine lv_aload_n hx hb dX11_expression_145 rfl (lv_at hl 0 rfl) ?_
  refine lv_bipush (v := 8) hx hb dX11_expression_146 (by decide) ?_
  obtain ⟨q_, s1, hc, hB⟩ := bindI_inv hB
  refine q_goiF (va_runV (As := [.int 8]) (rest := []) C (cr_is hc _) (cwV 1 hts gX11_expression_X11_is rfl rfl rfl (by decide +kernel) ⟨Nat.le_of_ble_eq_true rfl, Nat.le_of_ble_eq_true rfl⟩) (q_preV hK hP (ci := 11) (q0 := 0) rfl rfl rfl (q_preF hN hK hP hD)) rfl rfl hl.1 rfl (lv_room (Nat.le_of_ble_eq_true rfl)) dX11_expression_148 ⟨Nat.le_of_ble_eq_true rfl, Nat.le_of_ble_eq_true rfl⟩) hD hS hA (fun r2 w1 H locs hw hP hD hS => ?_)
  obtain ⟨hq_, hw⟩ := hw; subst hw; subst hq_
  refine lv_if_ne (tgt := 181) hx hb dX11_expression_151 (by decide) (fun c3 => ?_) (fun c3 => ?_)
  · have hB := if_n hB c3
    exact br_expression_181 (hk12) _ _ hB p e s0 m below meth c A E H locs ls hP hD hS (lv_sub hl [0, 1] rfl)
  · have hB := if_p hB c3
    refine lv_aload_n hx hb dX11_expression_154 rfl (lv_at hl 0 rfl) ?_
    refine lv_bipush (v := 9) hx hb dX11_expression_155 (by decide) ?_
    obtain ⟨q_, s4, hc, hB⟩ := bindI_inv hB
    refine q_goiF (va_runV (As := [.int 9]) (rest := []) C (cr_is hc _) (cwV 1 hts gX11_expression_X11_is rfl rfl rfl (by decide +kernel) ⟨Nat.le_of_ble_eq_true rfl, Nat.le_of_ble_eq_true rfl⟩) (q_preV hK hP (ci := 11) (q0 := 0) rfl rfl rfl (q_preF hN hK hP hD)) rfl rfl hl.1 rfl (lv_room (Nat.le_of_ble_eq_true rfl)) dX11_expression_157 ⟨Nat.le_of_ble_eq_true rfl, Nat.le_of_ble_eq_true rfl⟩) hD hS hA (fun r5 w1 H locs hw hP hD hS => ?_)
    obtain ⟨hq_, hw⟩ := hw; subst hw; subst hq_
    refine lv_if_ne (tgt := 181) hx hb dX11_expression_160 (by decide) (fun c6 => ?_) (fun c6 => ?_)
    · have hB := if_n hB c6
      exact br_expression_181 (hk12) _ _ hB p e s0 m below meth c A E H locs ls hP hD hS (lv_sub hl [0, 1] rfl)
    · have hB := if_p hB c6
      refine lv_aload_n hx hb dX11_expression_163 rfl (lv_at hl 0 rfl) ?_
      refine lv_bipush (v := 10) hx hb dX11_expression_164 (by decide) ?_
      obtain ⟨q_, s7, hc, hB⟩ := bindI_inv hB
      refine q_goiF (va_runV (As := [.int 10]) (rest := []) C (cr_is hc _) (cwV 1 hts gX11_expression_X11_is rfl rfl rfl (by decide +kernel) ⟨Nat.le_of_ble_eq_true rfl, Nat.le_of_ble_eq_true rfl⟩) (q_preV hK hP (ci := 11) (q0 := 0) rfl rfl rfl (q_preF hN hK hP hD)) rfl rfl hl.1 rfl (lv_room (Nat.le_of_ble_eq_true rfl)) dX11_expression_166 ⟨Nat.le_of_ble_eq_true rfl, Nat.le_of_ble_eq_true rfl⟩) hD hS hA (fun r8 w1 H locs hw hP hD hS => ?_)
      obtain ⟨hq_, hw⟩ := hw; subst hw; subst hq_
      refine lv_if_ne (tgt := 181) hx hb dX11_expression_169 (by decide) (fun c9 => ?_) (fun c9 => ?_)
      · have hB := if_n hB c9
        exact br_expression_181 (hk12) _ _ hB p e s0 m below meth c A E H locs ls hP hD hS (lv_sub hl [0, 1] rfl)
      · have hB := if_p hB c9
        refine lv_aload_n hx hb dX11_expression_172 rfl (lv_at hl 0 rfl) ?_
        refine lv_bipush (v := 15) hx hb dX11_expression_173 (by decide) ?_
        obtain ⟨q_, s10, hc, hB⟩ := bindI_inv hB
        refine q_goiF (va_runV (As := [.int 15]) (rest := []) C (cr_is hc _) (cwV 1 hts gX11_expression_X11_is rfl rfl rfl (by decide +kernel) ⟨Nat.le_of_ble_eq_true rfl, Nat.le_of_ble_eq_true rfl⟩) (q_preV hK hP (ci := 11) (q0 := 0) rfl rfl rfl (q_preF hN hK hP hD)) rfl rfl hl.1 rfl (lv_room (Nat.le_of_ble_eq_true rfl)) dX11_expression_175 ⟨Nat.le_of_ble_eq_true rfl, Nat.le_of_ble_eq_true rfl⟩) hD hS hA (fun r11 w1 H locs hw hP hD hS => ?_)
        obtain ⟨hq_, hw⟩ := hw; subst hw; subst hq_
        refine lv_if_eq (tgt := 185) hx hb dX11_expression_178 (by decide) (fun c12 => ?_) (fun c12 => ?_)
        · have hB := if_p hB c12
          refine lv_iconst (v := 0) hx hb dX11_expression_185 (by decide) ?_
          exact br_expression_186 (hk12) _ _ _ hB p e s0 m below meth c A E H locs ls hP hD hS (lv_sub hl [0, 1] rfl)
        · have hB := if_n hB c12
          exact br_expression_181 (hk12) _ _ hB p e s0 m below meth c A E H locs ls hP hD hS (lv_sub hl [0, 1] rfl)
set_option maxHeartbeats 4000000 in
set_option maxRecDepth 100000 in
theorem br_expression_96 {l : Launch} {dC : Nat → ClassId} {dI : Nat → Nat → Nat} {cB cI cJ cZ cS : ClassId} {h : Nat} {a : Nat → Nat} {as : List Value} {s' : RS} {k12 : RS → Int32 → Int32 → Option RS} {k96 : RS → Int32 → Option RS} (hk12 : ∀ (s : RS) (x1 : Int32) (x2 : Int32), k12 s x1 x2 = some s' → BlkV l yX11_expression wsX11_expression ({ frames := 3, cells := 0, slots := 0, locals := 61 }) cX11_expression 3 none (dC, dI) (tysA cB cI cJ cZ cS) as 12 (mwS cB cI cJ cZ h a s) [(0, .ref h), (1, .int x1), (2, .int x2)] [] (fun u => u = (mwS cB cI cJ cZ h a s'))) (hk96 : ∀ (s : RS) (x1 : Int32), k96 s x1 = some s' → BlkV l yX11_expression wsX11_expression ({ frames := 3, cells := 0, slots := 0, locals := 61 }) cX11_expression 3 none (dC, dI) (tysA cB cI cJ cZ cS) as 96 (mwS cB cI cJ cZ h a s) [(0, .ref h), (1, .int x1)] [] (fun u => u = (mwS cB cI cJ cZ h a s'))) (s : RS) (x1 : Int32) (hB : r_expression_96 k12 k96 s x1 = some s') : BlkV l yX11_expression wsX11_expression ({ frames := 3, cells := 0, slots := 0, locals := 61 }) cX11_expression 3 none (dC, dI) (tysA cB cI cJ cZ cS) as 96 (mwS cB cI cJ cZ h a s) [(0, .ref h), (1, .int x1)] [] (fun u => u = (mwS cB cI cJ cZ h a s')) := by
  intro p e s0 m below meth c A E H locs ls hP hD hS hl
  obtain ⟨C, hr, hlocks, hA, hK, hN⟩ := id E
  obtain ⟨hx, hb, hml, hown, hts⟩ := id C
  unfold r_expression_96 at hB
  refine lv_aload_n hx hb dX11_expression_96 rfl (lv_at hl 0 rfl) ?_
  refine lv_bipush (v := 7) hx hb dX11_expression_97 (by decide) ?_
  obtain ⟨q_, s1, hc, hB⟩ := bindI_inv hB
  refine q_goiF (va_runV (As := [.int 7]) (rest := []) C (cr_is hc _) (cwV 1 hts gX11_expression_X11_is rfl rfl rfl (by decide +kernel) ⟨Nat.le_of_ble_eq_true rfl, Nat.le_of_ble_eq_true rfl⟩) (q_preV hK hP (ci := 11) (q0 := 0) rfl rfl rfl (q_preF hN hK hP hD)) rfl rfl hl.1 rfl (lv_room (Nat.le_of_ble_eq_true rfl)) dX11_expression_99 ⟨Nat.le_of_ble_eq_true rfl, Nat.le_of_ble_eq_true rfl⟩) hD hS hA (fun r2 w1 H locs hw hP hD hS => ?_)
  obtain ⟨hq_, hw⟩ := hw; subst hw; subst hq_
  refine lv_if_eq (tgt := 145) hx hb dX11_expression_102 (by decide) (fun c3 => ?_) (fun c3 => ?_)
  · have hB := if_p hB c3
    exact br_expression_145 (hk12) _ _ hB p e s0 m below meth c A E H locs ls hP hD hS (lv_sub hl [0, 1] rfl)
  · have hB := if_n hB c3
    refine lv_aload_n hx hb dX11_expression_105 rfl (lv_at hl 0 rfl) ?_
    refine q_get (v := .int (s1.v 12)) C inX11_expression_X11 hK hP 0 rfl rfl 12 (by decide) rfl LX11_expression_212 rfl dX11_expression_106 ?_
    refine lv_iload_n hx hb dX11_expression_109 rfl (lv_at hl 1 rfl) ?_
    refine lv_icmp_le (tgt := 145) hx hb dX11_expression_110 (by decide) (fun c4 => ?_) (fun c4 => ?_)
    · have hB := if_p hB c4
      exact br_expression_145 (hk12) _ _ hB p e s0 m below meth c A E H locs ls hP hD hS (lv_sub hl [0, 1] rfl)
    · have hB := if_n hB c4
      refine lv_aload_n hx hb dX11_expression_113 rfl (lv_at hl 0 rfl) ?_
      refine lv_iconst (v := 0) hx hb dX11_expression_114 (by decide) ?_
      obtain ⟨s5, hc, hB⟩ := bindP_inv hB
      refine q_govF (va_runV (As := [.int 0]) (rest := []) C (cr_comesOut hc _) (cwV 1 hts gX11_expression_X11_comesOut rfl rfl rfl (by decide +kernel) ⟨Nat.le_of_ble_eq_true rfl, Nat.le_of_ble_eq_true rfl⟩) (q_preV hK hP (ci := 11) (q0 := 0) rfl rfl rfl (q_preF hN hK hP hD)) rfl rfl hl.1 rfl (lv_room (Nat.le_of_ble_eq_true rfl)) dX11_expression_115 ⟨Nat.le_of_ble_eq_true rfl, Nat.le_of_ble_eq_true rfl⟩) hD hS hA (fun w1 H locs hw hP hD hS => ?_)
      subst hw
      refine lv_aload_n hx hb dX11_expression_118 rfl (lv_at hl 0 rfl) ?_
      refine lv_dup hx hb dX11_expression_119 rfl ?_
      refine q_get (v := .int (s5.v 39)) C inX11_expression_X11 hK hP 0 rfl rfl 39 (by decide) rfl LX11_expression_264 rfl dX11_expression_120 ?_
      refine lv_iconst (v := 1) hx hb dX11_expression_123 (by decide) ?_
      refine lv_isub hx hb dX11_expression_124 ?_
      obtain ⟨s6, hs7, hB⟩ := letS_inv hB
      refine q_put (ty := .int) (w2 := (mwS cB cI cJ cZ h a s6)) tyX11 tyX11_ok nmX11 C inX11_expression_X11 hK hP hD hS 0 rfl rfl 39 (by decide) rfl LX11_expression_264 rfl (by decide +kernel) (rfl) rfl (Nat.le_of_ble_eq_true rfl) dX11_expression_125 (mwS_v39 hs7) (fun H locs hP hD hS => ?_)
      refine lv_aload_n hx hb dX11_expression_128 rfl (lv_at hl 0 rfl) ?_
      refine lv_dup hx hb dX11_expression_129 rfl ?_
      refine q_get (v := .int (s6.v 12)) C inX11_expression_X11 hK hP 0 rfl rfl 12 (by decide) rfl LX11_expression_212 rfl dX11_expression_130 ?_
      refine lv_iconst (v := 1) hx hb dX11_expression_133 (by decide) ?_
      refine lv_isub hx hb dX11_expression_134 ?_
      obtain ⟨s8, hs9, hB⟩ := letS_inv hB
      refine q_put (ty := .int) (w2 := (mwS cB cI cJ cZ h a s8)) tyX11 tyX11_ok nmX11 C inX11_expression_X11 hK hP hD hS 0 rfl rfl 12 (by decide) rfl LX11_expression_212 rfl (by decide +kernel) (rfl) rfl (Nat.le_of_ble_eq_true rfl) dX11_expression_135 (mwS_v12 hs9) (fun H locs hP hD hS => ?_)
      refine lv_aload_n hx hb dX11_expression_138 rfl (lv_at hl 0 rfl) ?_
      obtain ⟨s10, hc, hB⟩ := bindP_inv hB
      refine q_govF (va_runV (As := []) (rest := []) C (cr_goesOn hc _) (cwV 0 hts gX11_expression_X11_goesOn rfl rfl rfl (by decide +kernel) ⟨Nat.le_of_ble_eq_true rfl, Nat.le_of_ble_eq_true rfl⟩) (q_preV hK hP (ci := 11) (q0 := 0) rfl rfl rfl (q_preF hN hK hP hD)) rfl rfl hl.1 rfl (lv_room (Nat.le_of_ble_eq_true rfl)) dX11_expression_139 ⟨Nat.le_of_ble_eq_true rfl, Nat.le_of_ble_eq_true rfl⟩) hD hS hA (fun w1 H locs hw hP hD hS => ?_)
      subst hw
      refine lv_goto (tgt := 96) hx hb dX11_expression_142 (by decide) ?_
      exact hk96 _ _ hB p e s0 m below meth c A E H locs ls hP hD hS (lv_sub hl [0, 1] rfl)
theorem br_expression_96L {l : Launch} {dC : Nat → ClassId} {dI : Nat → Nat → Nat} {cB cI cJ cZ cS : ClassId} {h : Nat} {a : Nat → Nat} {as : List Value} {s' : RS} {k12 : RS → Int32 → Int32 → Option RS} (hk12 : ∀ (s : RS) (x1 : Int32) (x2 : Int32), k12 s x1 x2 = some s' → BlkV l yX11_expression wsX11_expression ({ frames := 3, cells := 0, slots := 0, locals := 61 }) cX11_expression 3 none (dC, dI) (tysA cB cI cJ cZ cS) as 12 (mwS cB cI cJ cZ h a s) [(0, .ref h), (1, .int x1), (2, .int x2)] [] (fun u => u = (mwS cB cI cJ cZ h a s'))) : ∀ (n : Nat) (s : RS) (x1 : Int32), r_expression_96L k12 n s x1 = some s' → BlkV l yX11_expression wsX11_expression ({ frames := 3, cells := 0, slots := 0, locals := 61 }) cX11_expression 3 none (dC, dI) (tysA cB cI cJ cZ cS) as 96 (mwS cB cI cJ cZ h a s) [(0, .ref h), (1, .int x1)] [] (fun u => u = (mwS cB cI cJ cZ h a s')) := by
  intro n
  induction n with
  | zero => intro s x1 hB; exact none_ne hB
  | succ n ih => intro s x1 hB; exact br_expression_96 hk12 ih _ _ hB
set_option maxHeartbeats 4000000 in
set_option maxRecDepth 100000 in
theorem br_expression_46 {l : Launch} {dC : Nat → ClassId} {dI : Nat → Nat → Nat} {cB cI cJ cZ cS : ClassId} {h : Nat} {a : Nat → Nat} {as : List Value} {s' : RS} {k12 : RS → Int32 → Int32 → Option RS} {k23 : RS → Int32 → Option RS} (hk12 : ∀ (s : RS) (x1 : Int32) (x2 : Int32), k12 s x1 x2 = some s' → BlkV l yX11_expression wsX11_expression ({ frames := 3, cells := 0, slots := 0, locals := 61 }) cX11_expression 3 none (dC, dI) (tysA cB cI cJ cZ cS) as 12 (mwS cB cI cJ cZ h a s) [(0, .ref h), (1, .int x1), (2, .int x2)] [] (fun u => u = (mwS cB cI cJ cZ h a s'))) (hk23 : ∀ (s : RS) (x1 : Int32), k23 s x1 = some s' → BlkV l yX11_expression wsX11_expression ({ frames := 3, cells := 0, slots := 0, locals := 61 }) cX11_expression 3 none (dC, dI) (tysA cB cI cJ cZ cS) as 23 (mwS cB cI cJ cZ h a s) [(0, .ref h), (1, .int x1)] [] (fun u => u = (mwS cB cI cJ cZ h a s'))) (s : RS) (x1 : Int32) (hB : r_expression_46 k12 k23 s x1 = some s') : BlkV l yX11_expression wsX11_expression ({ frames := 3, cells := 0, slots := 0, locals := 61 }) cX11_expression 3 none (dC, dI) (tysA cB cI cJ cZ cS) as 46 (mwS cB cI cJ cZ h a s) [(0, .ref h), (1, .int x1)] [] (fun u => u = (mwS cB cI cJ cZ h a s')) := by
  intro p e s0 m below meth c A E H locs ls hP hD hS hl
  obtain ⟨C, hr, hlocks, hA, hK, hN⟩ := id E
  obtain ⟨hx, hb, hml, hown, hts⟩ := id C
  unfold r_expression_46 at hB
  refine lv_aload_n hx hb dX11_expression_46 rfl (lv_at hl 0 rfl) ?_
  refine lv_dup hx hb dX11_expression_47 rfl ?_
  refine q_get (v := .int (s.v 12)) C inX11_expression_X11 hK hP 0 rfl rfl 12 (by decide) rfl LX11_expression_212 rfl dX11_expression_48 ?_
  refine lv_iconst (v := 1) hx hb dX11_expression_51 (by decide) ?_
  refine lv_iadd hx hb dX11_expression_52 ?_
  obtain ⟨s1, hs2, hB⟩ := letS_inv hB
  refine q_put (ty := .int) (w2 := (mwS cB cI cJ cZ h a s1)) tyX11 tyX11_ok nmX11 C inX11_expression_X11 hK hP hD hS 0 rfl rfl 12 (by decide) rfl LX11_expression_212 rfl (by decide +kernel) (rfl) rfl (Nat.le_of_ble_eq_true rfl) dX11_expression_53 (mwS_v12 hs2) (fun H locs hP hD hS => ?_)
  refine lv_aload_n hx hb dX11_expression_56 rfl (lv_at hl 0 rfl) ?_
  obtain ⟨s3, hc, hB⟩ := bindP_inv hB
  refine q_govF (va_runV (As := []) (rest := []) C (cr_goesOn hc _) (cwV 0 hts gX11_expression_X11_goesOn rfl rfl rfl (by decide +kernel) ⟨Nat.le_of_ble_eq_true rfl, Nat.le_of_ble_eq_true rfl⟩) (q_preV hK hP (ci := 11) (q0 := 0) rfl rfl rfl (q_preF hN hK hP hD)) rfl rfl hl.1 rfl (lv_room (Nat.le_of_ble_eq_true rfl)) dX11_expression_57 ⟨Nat.le_of_ble_eq_true rfl, Nat.le_of_ble_eq_true rfl⟩) hD hS hA (fun w1 H locs hw hP hD hS => ?_)
  subst hw
  refine lv_aload_n hx hb dX11_expression_60 rfl (lv_at hl 0 rfl) ?_
  refine q_get (v := .ref (a 38)) C inX11_expression_X11 hK hP 0 rfl rfl 38 (by decide) rfl LX11_expression_89 rfl dX11_expression_61 ?_
  refine lv_aload_n hx hb dX11_expression_64 rfl (lv_at hl 0 rfl) ?_
  refine q_get (v := .int (s3.v 39)) C inX11_expression_X11 hK hP 0 rfl rfl 39 (by decide) rfl LX11_expression_264 rfl dX11_expression_65 ?_
  refine lv_bipush (v := 6) hx hb dX11_expression_68 (by decide) ?_
  obtain ⟨g4, hB⟩ := guard_inv hB
  obtain ⟨s5, hs6, hB⟩ := letS_inv hB
  refine q_iast (f2 := (upd (s3.f 38) (Int32.toNatClampNeg (s3.v 39)) 6)) (w2 := (mwS cB cI cJ cZ h a s5)) C hK hP hD hS 24 1 rfl rfl (vpb_in g4) dX11_expression_70 rfl (mwS_f38 hs6) (fun H locs hP hD hS => ?_)
  refine lv_aload_n hx hb dX11_expression_71 rfl (lv_at hl 0 rfl) ?_
  refine lv_dup hx hb dX11_expression_72 rfl ?_
  refine q_get (v := .int (s5.v 39)) C inX11_expression_X11 hK hP 0 rfl rfl 39 (by decide) rfl LX11_expression_264 rfl dX11_expression_73 ?_
  refine lv_iconst (v := 1) hx hb dX11_expression_76 (by decide) ?_
  refine lv_iadd hx hb dX11_expression_77 ?_
  obtain ⟨s7, hs8, hB⟩ := letS_inv hB
  refine q_put (ty := .int) (w2 := (mwS cB cI cJ cZ h a s7)) tyX11 tyX11_ok nmX11 C inX11_expression_X11 hK hP hD hS 0 rfl rfl 39 (by decide) rfl LX11_expression_264 rfl (by decide +kernel) (rfl) rfl (Nat.le_of_ble_eq_true rfl) dX11_expression_78 (mwS_v39 hs8) (fun H locs hP hD hS => ?_)
  refine lv_goto (tgt := 23) hx hb dX11_expression_81 (by decide) ?_
  exact hk23 _ _ hB p e s0 m below meth c A E H locs ls hP hD hS (lv_sub hl [0, 1] rfl)
set_option maxHeartbeats 4000000 in
set_option maxRecDepth 100000 in
theorem br_expression_23 {l : Launch} {dC : Nat → ClassId} {dI : Nat → Nat → Nat} {cB cI cJ cZ cS : ClassId} {h : Nat} {a : Nat → Nat} {as : List Value} {s' : RS} {k12 : RS → Int32 → Int32 → Option RS} {k23 : RS → Int32 → Option RS} (hk12 : ∀ (s : RS) (x1 : Int32) (x2 : Int32), k12 s x1 x2 = some s' → BlkV l yX11_expression wsX11_expression ({ frames := 3, cells := 0, slots := 0, locals := 61 }) cX11_expression 3 none (dC, dI) (tysA cB cI cJ cZ cS) as 12 (mwS cB cI cJ cZ h a s) [(0, .ref h), (1, .int x1), (2, .int x2)] [] (fun u => u = (mwS cB cI cJ cZ h a s'))) (hk23 : ∀ (s : RS) (x1 : Int32), k23 s x1 = some s' → BlkV l yX11_expression wsX11_expression ({ frames := 3, cells := 0, slots := 0, locals := 61 }) cX11_expression 3 none (dC, dI) (tysA cB cI cJ cZ cS) as 23 (mwS cB cI cJ cZ h a s) [(0, .ref h), (1, .int x1)] [] (fun u => u = (mwS cB cI cJ cZ h a s'))) (s : RS) (x1 : Int32) (hB : r_expression_23 k12 k23 s x1 = some s') : BlkV l yX11_expression wsX11_expression ({ frames := 3, cells := 0, slots := 0, locals := 61 }) cX11_expression 3 none (dC, dI) (tysA cB cI cJ cZ cS) as 23 (mwS cB cI cJ cZ h a s) [(0, .ref h), (1, .int x1)] [] (fun u => u = (mwS cB cI cJ cZ h a s')) := by
  intro p e s0 m below meth c A E H locs ls hP hD hS hl
  obtain ⟨C, hr, hlocks, hA, hK, hN⟩ := id E
  obtain ⟨hx, hb, hml, hown, hts⟩ := id C
  unfold r_expression_23 at hB
  refine lv_aload_n hx hb dX11_expression_23 rfl (lv_at hl 0 rfl) ?_
  refine lv_bipush (v := 6) hx hb dX11_expression_24 (by decide) ?_
  obtain ⟨q_, s1, hc, hB⟩ := bindI_inv hB
  refine q_goiF (va_runV (As := [.int 6]) (rest := []) C (cr_is hc _) (cwV 1 hts gX11_expression_X11_is rfl rfl rfl (by decide +kernel) ⟨Nat.le_of_ble_eq_true rfl, Nat.le_of_ble_eq_true rfl⟩) (q_preV hK hP (ci := 11) (q0 := 0) rfl rfl rfl (q_preF hN hK hP hD)) rfl rfl hl.1 rfl (lv_room (Nat.le_of_ble_eq_true rfl)) dX11_expression_26 ⟨Nat.le_of_ble_eq_true rfl, Nat.le_of_ble_eq_true rfl⟩) hD hS hA (fun r2 w1 H locs hw hP hD hS => ?_)
  obtain ⟨hq_, hw⟩ := hw; subst hw; subst hq_
  refine lv_if_eq (tgt := 84) hx hb dX11_expression_29 (by decide) (fun c3 => ?_) (fun c3 => ?_)
  · have hB := if_p hB c3
    refine lv_aload_n hx hb dX11_expression_84 rfl (lv_at hl 0 rfl) ?_
    obtain ⟨s4, hc, hB⟩ := bindP_inv hB
    refine q_govF (va_runV (As := []) (rest := []) C (cr_unit hc _) (cwV 0 hts gX11_expression_X11_unit rfl rfl rfl (by decide +kernel) ⟨Nat.le_of_ble_eq_true rfl, Nat.le_of_ble_eq_true rfl⟩) (q_preV hK hP (ci := 11) (q0 := 0) rfl rfl rfl (q_preF hN hK hP hD)) rfl rfl hl.1 rfl (lv_room (Nat.le_of_ble_eq_true rfl)) dX11_expression_85 ⟨Nat.le_of_ble_eq_true rfl, Nat.le_of_ble_eq_true rfl⟩) hD hS hA (fun w1 H locs hw hP hD hS => ?_)
    subst hw
    refine lv_aload_n hx hb dX11_expression_88 rfl (lv_at hl 0 rfl) ?_
    refine q_get (v := .int (s4.v 13)) C inX11_expression_X11 hK hP 0 rfl rfl 13 (by decide) rfl LX11_expression_185 rfl dX11_expression_89 ?_
    refine lv_if_le (tgt := 96) hx hb dX11_expression_92 (by decide) (fun c5 => ?_) (fun c5 => ?_)
    · have hB := if_p hB c5
      exact br_expression_96L (hk12) fu _ _ hB p e s0 m below meth c A E H locs ls hP hD hS (lv_sub hl [0, 1] rfl)
    · have hB := if_n hB c5
      exact q_vret C hr hlocks hK hP hD hS (Nat.le_of_ble_eq_true rfl) (Nat.le_of_ble_eq_true rfl) dX11_expression_95 (by cases hB; rfl)
  · have hB := if_n hB c3
    refine lv_aload_n hx hb dX11_expression_32 rfl (lv_at hl 0 rfl) ?_
    refine q_get (v := .int (s1.v 12)) C inX11_expression_X11 hK hP 0 rfl rfl 12 (by decide) rfl LX11_expression_212 rfl dX11_expression_33 ?_
    refine lv_bipush (v := 6) hx hb dX11_expression_36 (by decide) ?_
    refine lv_icmp_ne (tgt := 46) hx hb dX11_expression_38 (by decide) (fun c6 => ?_) (fun c6 => ?_)
    · have hB := if_n hB c6
      exact br_expression_46 (hk12) (hk23) _ _ hB p e s0 m below meth c A E H locs ls hP hD hS (lv_sub hl [0, 1] rfl)
    · have hB := if_p hB c6
      refine lv_aload_n hx hb dX11_expression_41 rfl (lv_at hl 0 rfl) ?_
      refine lv_iconst (v := 2) hx hb dX11_expression_42 (by decide) ?_
      obtain ⟨s7, hc, hB⟩ := bindP_inv hB
      refine q_govF (va_runV (As := [.int 2]) (rest := []) C (cr_fail hc _) (cwV 1 hts gX11_expression_X11_fail rfl rfl rfl (by decide +kernel) ⟨Nat.le_of_ble_eq_true rfl, Nat.le_of_ble_eq_true rfl⟩) (q_preV hK hP (ci := 11) (q0 := 0) rfl rfl rfl (q_preF hN hK hP hD)) rfl rfl hl.1 rfl (lv_room (Nat.le_of_ble_eq_true rfl)) dX11_expression_43 ⟨Nat.le_of_ble_eq_true rfl, Nat.le_of_ble_eq_true rfl⟩) hD hS hA (fun w1 H locs hw hP hD hS => ?_)
      subst hw
      exact br_expression_46 (hk12) (hk23) _ _ hB p e s0 m below meth c A E H locs ls hP hD hS (lv_sub hl [0, 1] rfl)
theorem br_expression_23L {l : Launch} {dC : Nat → ClassId} {dI : Nat → Nat → Nat} {cB cI cJ cZ cS : ClassId} {h : Nat} {a : Nat → Nat} {as : List Value} {s' : RS} {k12 : RS → Int32 → Int32 → Option RS} (hk12 : ∀ (s : RS) (x1 : Int32) (x2 : Int32), k12 s x1 x2 = some s' → BlkV l yX11_expression wsX11_expression ({ frames := 3, cells := 0, slots := 0, locals := 61 }) cX11_expression 3 none (dC, dI) (tysA cB cI cJ cZ cS) as 12 (mwS cB cI cJ cZ h a s) [(0, .ref h), (1, .int x1), (2, .int x2)] [] (fun u => u = (mwS cB cI cJ cZ h a s'))) : ∀ (n : Nat) (s : RS) (x1 : Int32), r_expression_23L k12 n s x1 = some s' → BlkV l yX11_expression wsX11_expression ({ frames := 3, cells := 0, slots := 0, locals := 61 }) cX11_expression 3 none (dC, dI) (tysA cB cI cJ cZ cS) as 23 (mwS cB cI cJ cZ h a s) [(0, .ref h), (1, .int x1)] [] (fun u => u = (mwS cB cI cJ cZ h a s')) := by
  intro n
  induction n with
  | zero => intro s x1 hB; exact none_ne hB
  | succ n ih => intro s x1 hB; exact br_expression_23 hk12 ih _ _ hB
set_option maxHeartbeats 4000000 in
set_option maxRecDepth 100000 in
theorem br_expression_12 {l : Launch} {dC : Nat → ClassId} {dI : Nat → Nat → Nat} {cB cI cJ cZ cS : ClassId} {h : Nat} {a : Nat → Nat} {as : List Value} {s' : RS} {k12 : RS → Int32 → Int32 → Option RS} (hk12 : ∀ (s : RS) (x1 : Int32) (x2 : Int32), k12 s x1 x2 = some s' → BlkV l yX11_expression wsX11_expression ({ frames := 3, cells := 0, slots := 0, locals := 61 }) cX11_expression 3 none (dC, dI) (tysA cB cI cJ cZ cS) as 12 (mwS cB cI cJ cZ h a s) [(0, .ref h), (1, .int x1), (2, .int x2)] [] (fun u => u = (mwS cB cI cJ cZ h a s'))) (s : RS) (x1 : Int32) (x2 : Int32) (hB : r_expression_12 k12 s x1 x2 = some s') : BlkV l yX11_expression wsX11_expression ({ frames := 3, cells := 0, slots := 0, locals := 61 }) cX11_expression 3 none (dC, dI) (tysA cB cI cJ cZ cS) as 12 (mwS cB cI cJ cZ h a s) [(0, .ref h), (1, .int x1), (2, .int x2)] [] (fun u => u = (mwS cB cI cJ cZ h a s')) := by
  intro p e s0 m below meth c A E H locs ls hP hD hS hl
  obtain ⟨C, hr, hlocks, hA, hK, hN⟩ := id E
  obtain ⟨hx, hb, hml, hown, hts⟩ := id C
  unfold r_expression_12 at hB
  refine lv_iload_n hx hb dX11_expression_12 rfl (lv_at hl 2 rfl) ?_
  refine lv_if_eq (tgt := 272) hx hb dX11_expression_13 (by decide) (fun c1 => ?_) (fun c1 => ?_)
  · have hB := if_p hB c1
    exact q_vret C hr hlocks hK hP hD hS (Nat.le_of_ble_eq_true rfl) (Nat.le_of_ble_eq_true rfl) dX11_expression_272 (by cases hB; rfl)
  · have hB := if_n hB c1
    refine lv_aload_n hx hb dX11_expression_16 rfl (lv_at hl 0 rfl) ?_
    refine q_get (v := .int (s.v 13)) C inX11_expression_X11 hK hP 0 rfl rfl 13 (by decide) rfl LX11_expression_185 rfl dX11_expression_17 ?_
    refine lv_if_ne (tgt := 272) hx hb dX11_expression_20 (by decide) (fun c2 => ?_) (fun c2 => ?_)
    · have hB := if_n hB c2
      exact q_vret C hr hlocks hK hP hD hS (Nat.le_of_ble_eq_true rfl) (Nat.le_of_ble_eq_true rfl) dX11_expression_272 (by cases hB; rfl)
    · have hB := if_p hB c2
      exact br_expression_23L (hk12) fu _ _ hB p e s0 m below meth c A E H locs ls hP hD hS (lv_sub hl [0, 1] rfl)
theorem br_expression_12L {l : Launch} {dC : Nat → ClassId} {dI : Nat → Nat → Nat} {cB cI cJ cZ cS : ClassId} {h : Nat} {a : Nat → Nat} {as : List Value} {s' : RS} : ∀ (n : Nat) (s : RS) (x1 : Int32) (x2 : Int32), r_expression_12L n s x1 x2 = some s' → BlkV l yX11_expression wsX11_expression ({ frames := 3, cells := 0, slots := 0, locals := 61 }) cX11_expression 3 none (dC, dI) (tysA cB cI cJ cZ cS) as 12 (mwS cB cI cJ cZ h a s) [(0, .ref h), (1, .int x1), (2, .int x2)] [] (fun u => u = (mwS cB cI cJ cZ h a s')) := by
  intro n
  induction n with
  | zero => intro s x1 x2 hB; exact none_ne hB
  | succ n ih => intro s x1 x2 hB; exact br_expression_12 ih _ _ _ hB
set_option maxHeartbeats 4000000 in
set_option maxRecDepth 100000 in
theorem br_expression {l : Launch} {dC : Nat → ClassId} {dI : Nat → Nat → Nat} {cB cI cJ cZ cS : ClassId} {h : Nat} {a : Nat → Nat} {as : List Value} {s' : RS} (s : RS) (hB : r_expression s = some s') : BlkV l yX11_expression wsX11_expression ({ frames := 3, cells := 0, slots := 0, locals := 61 }) cX11_expression 3 none (dC, dI) (tysA cB cI cJ cZ cS) as 0 (mwS cB cI cJ cZ h a s) [(0, .ref h)] [] (fun u => u = (mwS cB cI cJ cZ h a s')) := by
  intro p e s0 m below meth c A E H locs ls hP hD hS hl
  obtain ⟨C, hr, hlocks, hA, hK, hN⟩ := id E
  obtain ⟨hx, hb, hml, hown, hts⟩ := id C
  unfold r_expression at hB
  refine lv_aload_n hx hb dX11_expression_0 rfl (lv_at hl 0 rfl) ?_
  refine lv_iconst (v := 0) hx hb dX11_expression_1 (by decide) ?_
  obtain ⟨s1, hs2, hB⟩ := letS_inv hB
  refine q_put (ty := .int) (w2 := (mwS cB cI cJ cZ h a s1)) tyX11 tyX11_ok nmX11 C inX11_expression_X11 hK hP hD hS 0 rfl rfl 39 (by decide) rfl LX11_expression_264 rfl (by decide +kernel) (rfl) rfl (Nat.le_of_ble_eq_true rfl) dX11_expression_2 (mwS_v39 hs2) (fun H locs hP hD hS => ?_)
  refine lv_aload_n hx hb dX11_expression_5 rfl (lv_at hl 0 rfl) ?_
  refine q_get (v := .int (s1.v 12)) C inX11_expression_X11 hK hP 0 rfl rfl 12 (by decide) rfl LX11_expression_212 rfl dX11_expression_6 ?_
  refine lv_istore_n (lv' := [(1, .int (s1.v 12)), (0, .ref h)]) hx hb dX11_expression_9 rfl hl (by decide) rfl (fun ls hl => ?_)
  refine lv_iconst (v := 1) hx hb dX11_expression_10 (by decide) ?_
  refine lv_istore_n (lv' := [(2, .int 1), (1, .int (s1.v 12)), (0, .ref h)]) hx hb dX11_expression_11 rfl hl (by decide) rfl (fun ls hl => ?_)
  exact br_expression_12L fu _ _ _ hB p e s0 m below meth c A E H locs ls hP hD hS (lv_sub hl [2, 1, 0] rfl)
theorem cr_expression {l : Launch} {dC : Nat → ClassId} {dI : Nat → Nat → Nat} {cB cI cJ cZ cS : ClassId} {h : Nat} {a : Nat → Nat} {s' : RS} {s : RS} (hB : r_expression s = some s') : CV l yX11_expression wsX11_expression ({ frames := 3, cells := 0, slots := 0, locals := 61 }) (dC, dI) (tysA cB cI cJ cZ cS) (mwS cB cI cJ cZ h a s) [.ref h] (fun u => u = (mwS cB cI cJ cZ h a s')) :=
  CV_of (cc := cX11_expression) (maxL := 3) (ret := none) (by decide) rfl (Nat.le_of_ble_eq_true rfl) (br_expression _ hB)
