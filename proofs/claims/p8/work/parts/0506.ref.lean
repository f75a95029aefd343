theorem dX11_looks_0 : decode cX11_looks 0 = .ok (.iconst 0, 1) := dc1_3 (by decide +kernel)
theorem dX11_looks_1 : decode cX11_looks 1 = .ok (.istore_n 2, 1) := dc1_61 (by decide +kernel)
theorem dX11_looks_2 : decode cX11_looks 2 = .ok (.iload_n 2, 1) := dc1_28 (by decide +kernel)
theorem dX11_looks_3 : decode cX11_looks 3 = .ok (.bipush 9, 2) := dcb_16 (n := 9) (by decide +kernel)
theorem dX11_looks_5 : decode cX11_looks 5 = .ok (.if_icmp .ge 16, 3) := dcs_162 (n := 16) (by decide +kernel)
theorem dX11_looks_8 : decode cX11_looks 8 = .ok (.aload_n 0, 1) := dc1_42 (by decide +kernel)
theorem dX11_looks_9 : decode cX11_looks 9 = .ok (.getfield 92, 3) := dcw_180 (by decide +kernel)
theorem dX11_looks_12 : decode cX11_looks 12 = .ok (.iload_n 2, 1) := dc1_28 (by decide +kernel)
theorem dX11_looks_13 : decode cX11_looks 13 = .ok (.iconst 0, 1) := dc1_3 (by decide +kernel)
theorem dX11_looks_14 : decode cX11_looks 14 = .ok (.iastore, 1) := dc1_79 (by decide +kernel)
theorem dX11_looks_15 : decode cX11_looks 15 = .ok (.iinc 2 1, 3) := dc_iinc (m := 1) (by decide +kernel)
theorem dX11_looks_18 : decode cX11_looks 18 = .ok (.goto (-16), 3) := dcs_167 (n := 65520) (by decide +kernel)
theorem dX11_looks_21 : decode cX11_looks 21 = .ok (.aload_n 0, 1) := dc1_42 (by decide +kernel)
theorem dX11_looks_22 : decode cX11_looks 22 = .ok (.getfield 92, 3) := dcw_180 (by decide +kernel)
theorem dX11_looks_25 : decode cX11_looks 25 = .ok (.iconst 5, 1) := dc1_8 (by decide +kernel)
theorem dX11_looks_26 : decode cX11_looks 26 = .ok (.aload_n 0, 1) := dc1_42 (by decide +kernel)
theorem dX11_looks_27 : decode cX11_looks 27 = .ok (.getfield 101, 3) := dcw_180 (by decide +kernel)
theorem dX11_looks_30 : decode cX11_looks 30 = .ok (.bipush 27, 2) := dcb_16 (n := 27) (by decide +kernel)
theorem dX11_looks_32 : decode cX11_looks 32 = .ok (.iaload, 1) := dc1_46 (by decide +kernel)
theorem dX11_looks_33 : decode cX11_looks 33 = .ok (.iastore, 1) := dc1_79 (by decide +kernel)
theorem dX11_looks_34 : decode cX11_looks 34 = .ok (.iload_n 1, 1) := dc1_27 (by decide +kernel)
theorem dX11_looks_35 : decode cX11_looks 35 = .ok (.ifCond .ge 4, 3) := dcs_156 (n := 4) (by decide +kernel)
theorem dX11_looks_38 : decode cX11_looks 38 = .ok (.return_, 1) := dc1_177 (by decide +kernel)
theorem dX11_looks_39 : decode cX11_looks 39 = .ok (.aload_n 0, 1) := dc1_42 (by decide +kernel)
theorem dX11_looks_40 : decode cX11_looks 40 = .ok (.getfield 92, 3) := dcw_180 (by decide +kernel)
theorem dX11_looks_43 : decode cX11_looks 43 = .ok (.iconst 2, 1) := dc1_5 (by decide +kernel)
theorem dX11_looks_44 : decode cX11_looks 44 = .ok (.aload_n 0, 1) := dc1_42 (by decide +kernel)
theorem dX11_looks_45 : decode cX11_looks 45 = .ok (.getfield 52, 3) := dcw_180 (by decide +kernel)
theorem dX11_looks_48 : decode cX11_looks 48 = .ok (.bipush 6, 2) := dcb_16 (n := 6) (by decide +kernel)
theorem dX11_looks_50 : decode cX11_looks 50 = .ok (.aload_n 0, 1) := dc1_42 (by decide +kernel)
theorem dX11_looks_51 : decode cX11_looks 51 = .ok (.getfield 215, 3) := dcw_180 (by decide +kernel)
theorem dX11_looks_54 : decode cX11_looks 54 = .ok (.imul, 1) := dc1_104 (by decide +kernel)
theorem dX11_looks_55 : decode cX11_looks 55 = .ok (.iload_n 1, 1) := dc1_27 (by decide +kernel)
theorem dX11_looks_56 : decode cX11_looks 56 = .ok (.iadd, 1) := dc1_96 (by decide +kernel)
theorem dX11_looks_57 : decode cX11_looks 57 = .ok (.iaload, 1) := dc1_46 (by decide +kernel)
theorem dX11_looks_58 : decode cX11_looks 58 = .ok (.iastore, 1) := dc1_79 (by decide +kernel)
theorem dX11_looks_59 : decode cX11_looks 59 = .ok (.aload_n 0, 1) := dc1_42 (by decide +kernel)
theorem dX11_looks_60 : decode cX11_looks 60 = .ok (.getfield 92, 3) := dcw_180 (by decide +kernel)
theorem dX11_looks_63 : decode cX11_looks 63 = .ok (.iconst 3, 1) := dc1_6 (by decide +kernel)
theorem dX11_looks_64 : decode cX11_looks 64 = .ok (.aload_n 0, 1) := dc1_42 (by decide +kernel)
theorem dX11_looks_65 : decode cX11_looks 65 = .ok (.getfield 55, 3) := dcw_180 (by decide +kernel)
theorem dX11_looks_68 : decode cX11_looks 68 = .ok (.bipush 6, 2) := dcb_16 (n := 6) (by decide +kernel)
theorem dX11_looks_70 : decode cX11_looks 70 = .ok (.aload_n 0, 1) := dc1_42 (by decide +kernel)
theorem dX11_looks_71 : decode cX11_looks 71 = .ok (.getfield 215, 3) := dcw_180 (by decide +kernel)
theorem dX11_looks_74 : decode cX11_looks 74 = .ok (.imul, 1) := dc1_104 (by decide +kernel)
theorem dX11_looks_75 : decode cX11_looks 75 = .ok (.iload_n 1, 1) := dc1_27 (by decide +kernel)
theorem dX11_looks_76 : decode cX11_looks 76 = .ok (.iadd, 1) := dc1_96 (by decide +kernel)
theorem dX11_looks_77 : decode cX11_looks 77 = .ok (.iaload, 1) := dc1_46 (by decide +kernel)
theorem dX11_looks_78 : decode cX11_looks 78 = .ok (.iastore, 1) := dc1_79 (by decide +kernel)
theorem dX11_looks_79 : decode cX11_looks 79 = .ok (.aload_n 0, 1) := dc1_42 (by decide +kernel)
theorem dX11_looks_80 : decode cX11_looks 80 = .ok (.getfield 92, 3) := dcw_180 (by decide +kernel)
theorem dX11_looks_83 : decode cX11_looks 83 = .ok (.bipush 6, 2) := dcb_16 (n := 6) (by decide +kernel)
theorem dX11_looks_85 : decode cX11_looks 85 = .ok (.iload_n 1, 1) := dc1_27 (by decide +kernel)
theorem dX11_looks_86 : decode cX11_looks 86 = .ok (.iastore, 1) := dc1_79 (by decide +kernel)
theorem dX11_looks_87 : decode cX11_looks 87 = .ok (.aload_n 0, 1) := dc1_42 (by decide +kernel)
theorem dX11_looks_88 : decode cX11_looks 88 = .ok (.getfield 92, 3) := dcw_180 (by decide +kernel)
theorem dX11_looks_91 : decode cX11_looks 91 = .ok (.bipush 8, 2) := dcb_16 (n := 8) (by decide +kernel)
theorem dX11_looks_93 : decode cX11_looks 93 = .ok (.aload_n 0, 1) := dc1_42 (by decide +kernel)
theorem dX11_looks_94 : decode cX11_looks 94 = .ok (.getfield 101, 3) := dcw_180 (by decide +kernel)
theorem dX11_looks_97 : decode cX11_looks 97 = .ok (.bipush 21, 2) := dcb_16 (n := 21) (by decide +kernel)
theorem dX11_looks_99 : decode cX11_looks 99 = .ok (.iload_n 1, 1) := dc1_27 (by decide +kernel)
theorem dX11_looks_100 : decode cX11_looks 100 = .ok (.iadd, 1) := dc1_96 (by decide +kernel)
theorem dX11_looks_101 : decode cX11_looks 101 = .ok (.iaload, 1) := dc1_46 (by decide +kernel)
theorem dX11_looks_102 : decode cX11_looks 102 = .ok (.iastore, 1) := dc1_79 (by decide +kernel)
theorem dX11_looks_103 : decode cX11_looks 103 = .ok (.return_, 1) := dc1_177 (by decide +kernel)
theorem ggX11_looksOver_X11_mayAt : GoodIn wsX11_looksOver wsX11_mayAt := gi_sub (fun w h => List.mem_cons_of_mem _ (List.mem_append_left _ (List.mem_append_right _ (List.mem_append_left _ h)))) gd_wsX11_mayAt
set_option maxRecDepth 20000 in
theorem gX11_looksOver_X11_mayAt : GoodIn wsX11_looksOver (wsV RX11 309 RX11 yX11_mayAt wsX11_mayAt) := goodIn_app (goodIn_r _ [3, 4, 5, 6] (by decide +kernel) (by decide +kernel)) ggX11_looksOver_X11_mayAt
theorem ggX11_looksOver_X11_bits : GoodIn wsX11_looksOver wsX11_bits := gi_sub (fun w h => List.mem_cons_of_mem _ (List.mem_append_left _ (List.mem_append_right _ (List.mem_append_right _ h)))) gd_wsX11_bits
set_option maxRecDepth 20000 in
theorem gX11_looksOver_X11_bits : GoodIn wsX11_looksOver (va_wsS RX11 312 yX11_bits wsX11_bits) := goodIn_app (goodIn_of _ (by decide +kernel)) ggX11_looksOver_X11_bits
theorem dX11_looksOver_0 : decode cX11_looksOver 0 = .ok (.aload_n 0, 1) := dc1_42 (by decide +kernel)
theorem dX11_looksOver_1 : decode cX11_looksOver 1 = .ok (.getfield 92, 3) := dcw_180 (by decide +kernel)
theorem dX11_looksOver_4 : decode cX11_looksOver 4 = .ok (.iconst 0, 1) := dc1_3 (by decide +kernel)
theorem dX11_looksOver_5 : decode cX11_looksOver 5 = .ok (.iload_n 1, 1) := dc1_27 (by decide +kernel)
theorem dX11_looksOver_6 : decode cX11_looksOver 6 = .ok (.iastore, 1) := dc1_79 (by decide +kernel)
theorem dX11_looksOver_7 : decode cX11_looksOver 7 = .ok (.aload_n 0, 1) := dc1_42 (by decide +kernel)
theorem dX11_looksOver_8 : decode cX11_looksOver 8 = .ok (.getfield 92, 3) := dcw_180 (by decide +kernel)
theorem dX11_looksOver_11 : decode cX11_looksOver 11 = .ok (.iconst 4, 1) := dc1_7 (by decide +kernel)
theorem dX11_looksOver_12 : decode cX11_looksOver 12 = .ok (.aload_n 0, 1) := dc1_42 (by decide +kernel)
theorem dX11_looksOver_13 : decode cX11_looksOver 13 = .ok (.iload_n 1, 1) := dc1_27 (by decide +kernel)
theorem dX11_looksOver_14 : decode cX11_looksOver 14 = .ok (.invokevirtual 309, 3) := dcw_182 (by decide +kernel)
theorem dX11_looksOver_17 : decode cX11_looksOver 17 = .ok (.invokestatic 312, 3) := dcw_184 (by decide +kernel)
theorem dX11_looksOver_20 : decode cX11_looksOver 20 = .ok (.iastore, 1) := dc1_79 (by decide +kernel)
theorem dX11_looksOver_21 : decode cX11_looksOver 21 = .ok (.aload_n 0, 1) := dc1_42 (by decide +kernel)
theorem dX11_looksOver_22 : decode cX11_looksOver 22 = .ok (.getfield 92, 3) := dcw_180 (by decide +kernel)
theorem dX11_looksOver_25 : decode cX11_looksOver 25 = .ok (.bipush 7, 2) := dcb_16 (n := 7) (by decide +kernel)
theorem dX11_looksOver_27 : decode cX11_looksOver 27 = .ok (.aload_n 0, 1) := dc1_42 (by decide +kernel)
theorem dX11_looksOver_28 : decode cX11_looksOver 28 = .ok (.getfield 101, 3) := dcw_180 (by decide +kernel)
theorem dX11_looksOver_31 : decode cX11_looksOver 31 = .ok (.iload_n 1, 1) := dc1_27 (by decide +kernel)
theorem dX11_looksOver_32 : decode cX11_looksOver 32 = .ok (.iaload, 1) := dc1_46 (by decide +kernel)
theorem dX11_looksOver_33 : decode cX11_looksOver 33 = .ok (.invokestatic 312, 3) := dcw_184 (by decide +kernel)
theorem dX11_looksOver_36 : decode cX11_looksOver 36 = .ok (.iastore, 1) := dc1_79 (by decide +kernel)
theorem dX11_looksOver_37 : decode cX11_looksOver 37 = .ok (.return_, 1) := dc1_177 (by decide +kernel)
theorem ggX11_needsOf_X11_looks : GoodIn wsX11_needsOf wsX11_looks := gi_sub (fun w h => List.mem_cons_of_mem _ (List.mem_append_left _ (List.mem_append_right _ (List.mem_append_left _ h)))) gd_wsX11_looks
set_option maxRecDepth 20000 in
theorem gX11_needsOf_X11_looks : GoodIn wsX11_needsOf (wsV RX11 315 RX11 yX11_looks wsX11_looks) := goodIn_app (goodIn_r _ [2, 3, 4, 5] (by decide +kernel) (by decide +kernel)) ggX11_needsOf_X11_looks
theorem ggX11_needsOf_X11_looksOver : GoodIn wsX11_needsOf wsX11_looksOver := gi_sub (fun w h => List.mem_cons_of_mem _ (List.mem_append_left _ (List.mem_append_right _ (List.mem_append_right _ (List.mem_append_left _ h))))) gd_wsX11_looksOver
set_option maxRecDepth 20000 in
theorem gX11_needsOf_X11_looksOver : GoodIn wsX11_needsOf (wsV RX11 318 RX11 yX11_looksOver wsX11_looksOver) := goodIn_app (goodIn_r _ [6, 7, 8, 5] (by decide +kernel) (by decide +kernel)) ggX11_needsOf_X11_looksOver
theorem ggX11_needsOf_X11_oddsAt : GoodIn wsX11_needsOf wsX11_oddsAt := gi_sub (fun w h => List.mem_cons_of_mem _ (List.mem_append_left _ (List.mem_append_right _ (List.mem_append_right _ (List.mem_append_right _ (List.mem_append_left _ h)))))) gd_wsX11_oddsAt
set_option maxRecDepth 20000 in
theorem gX11_needsOf_X11_oddsAt : GoodIn wsX11_needsOf (wsV RX11 297 RX11 yX11_oddsAt wsX11_oddsAt) := goodIn_app (goodIn_r _ [9, 10, 11, 5] (by decide +kernel) (by decide +kernel)) ggX11_needsOf_X11_oddsAt
theorem ggX11_needsOf_X11_lawTells : GoodIn wsX11_needsOf wsX11_lawTells := gi_sub (fun w h => List.mem_cons_of_mem _ (List.mem_append_left _ (List.mem_append_right _ (List.mem_append_right _ (List.mem_append_right _ (List.mem_append_right _ (List.mem_append_left _ h))))))) gd_wsX11_lawTells
set_option maxRecDepth 20000 in
theorem gX11_needsOf_X11_lawTells : GoodIn wsX11_needsOf (wsV RX11 321 RX11 yX11_lawTells wsX11_lawTells) := goodIn_app (goodIn_r _ [12, 13, 14, 5] (by decide +kernel) (by decide +kernel)) ggX11_needsOf_X11_lawTells
theorem ggX11_needsOf_X11_within : GoodIn wsX11_needsOf wsX11_within := gi_sub (fun w h => List.mem_cons_of_mem _ (List.mem_append_left _ (List.mem_append_right _ (List.mem_append_right _ (List.mem_append_right _ (List.mem_append_right _ (List.mem_append_right _ h))))))) gd_wsX11_within
set_option maxRecDepth 20000 in
theorem gX11_needsOf_X11_within : GoodIn wsX11_needsOf (va_wsS RX11 324 yX11_within wsX11_within) := goodIn_app (goodIn_of _ (by decide +kernel)) ggX11_needsOf_X11_within
theorem dX11_needsOf_0 : decode cX11_needsOf 0 = .ok (.aload_n 0, 1) := dc1_42 (by decide +kernel)
theorem dX11_needsOf_1 : decode cX11_needsOf 1 = .ok (.iload_n 1, 1) := dc1_27 (by decide +kernel)
theorem dX11_needsOf_2 : decode cX11_needsOf 2 = .ok (.invokevirtual 315, 3) := dcw_182 (by decide +kernel)
theorem dX11_needsOf_5 : decode cX11_needsOf 5 = .ok (.aload_n 0, 1) := dc1_42 (by decide +kernel)
theorem dX11_needsOf_6 : decode cX11_needsOf 6 = .ok (.iload_n 2, 1) := dc1_28 (by decide +kernel)
theorem dX11_needsOf_7 : decode cX11_needsOf 7 = .ok (.invokevirtual 318, 3) := dcw_182 (by decide +kernel)
theorem dX11_needsOf_10 : decode cX11_needsOf 10 = .ok (.aload_n 0, 1) := dc1_42 (by decide +kernel)
theorem dX11_needsOf_11 : decode cX11_needsOf 11 = .ok (.getfield 92, 3) := dcw_180 (by decide +kernel)
theorem dX11_needsOf_14 : decode cX11_needsOf 14 = .ok (.iconst 1, 1) := dc1_4 (by decide +kernel)
theorem dX11_needsOf_15 : decode cX11_needsOf 15 = .ok (.aload_n 0, 1) := dc1_42 (by decide +kernel)
theorem dX11_needsOf_16 : decode cX11_needsOf 16 = .ok (.iload_n 2, 1) := dc1_28 (by decide +kernel)
theorem dX11_needsOf_17 : decode cX11_needsOf 17 = .ok (.iload_n 3, 1) := dc1_29 (by decide +kernel)
theorem dX11_needsOf_18 : decode cX11_needsOf 18 = .ok (.invokevirtual 297, 3) := dcw_182 (by decide +kernel)
theorem dX11_needsOf_21 : decode cX11_needsOf 21 = .ok (.iastore, 1) := dc1_79 (by decide +kernel)
theorem dX11_needsOf_22 : decode cX11_needsOf 22 = .ok (.aload_n 0, 1) := dc1_42 (by decide +kernel)
theorem dX11_needsOf_23 : decode cX11_needsOf 23 = .ok (.iconst 0, 1) := dc1_3 (by decide +kernel)
theorem dX11_needsOf_24 : decode cX11_needsOf 24 = .ok (.aload_n 0, 1) := dc1_42 (by decide +kernel)
theorem dX11_needsOf_25 : decode cX11_needsOf 25 = .ok (.getfield 92, 3) := dcw_180 (by decide +kernel)
theorem dX11_needsOf_28 : decode cX11_needsOf 28 = .ok (.iconst 2, 1) := dc1_5 (by decide +kernel)
theorem dX11_needsOf_29 : decode cX11_needsOf 29 = .ok (.iaload, 1) := dc1_46 (by decide +kernel)
theorem dX11_needsOf_30 : decode cX11_needsOf 30 = .ok (.invokevirtual 321, 3) := dcw_182 (by decide +kernel)
theorem dX11_needsOf_33 : decode cX11_needsOf 33 = .ok (.iconst 0, 1) := dc1_3 (by decide +kernel)
theorem dX11_needsOf_34 : decode cX11_needsOf 34 = .ok (.bipush 9, 2) := dcb_16 (n := 9) (by decide +kernel)
theorem dX11_needsOf_36 : decode cX11_needsOf 36 = .ok (.invokestatic 324, 3) := dcw_184 (by decide +kernel)
theorem dX11_needsOf_39 : decode cX11_needsOf 39 = .ok (.ireturn, 1) := dc1_172 (by decide +kernel)
theorem ggX11_faresOf_X11_looks : GoodIn wsX11_faresOf wsX11_looks := gi_sub (fun w h => List.mem_cons_of_mem _ (List.mem_append_left _ (List.mem_append_right _ (List.mem_append_left _ h)))) gd_wsX11_looks
set_option maxRecDepth 20000 in
theorem gX11_faresOf_X11_looks : GoodIn wsX11_faresOf (wsV RX11 315 RX11 yX11_looks wsX11_looks) := goodIn_app (goodIn_r _ [1, 2, 3, 4] (by decide +kernel) (by decide +kernel)) ggX11_faresOf_X11_looks
theorem ggX11_faresOf_X11_lawTells : GoodIn wsX11_faresOf wsX11_lawTells := gi_sub (fun w h => List.mem_cons_of_mem _ (List.mem_append_left _ (List.mem_append_right _ (List.mem_append_right _ (List.mem_append_left _ h))))) gd_wsX11_lawTells
set_option maxRecDepth 20000 in
theorem gX11_faresOf_X11_lawTells : GoodIn wsX11_faresOf (wsV RX11 321 RX11 yX11_lawTells wsX11_lawTells) := goodIn_app (goodIn_r _ [5, 6, 7, 4] (by decide +kernel) (by decide +kernel)) ggX11_faresOf_X11_lawTells
theorem ggX11_faresOf_X11_within : GoodIn wsX11_faresOf wsX11_within := gi_sub (fun w h => List.mem_cons_of_mem _ (List.mem_append_left _ (List.mem_append_right _ (List.mem_append_right _ (List.mem_append_right _ h))))) gd_wsX11_within
set_option maxRecDepth 20000 in
theorem gX11_faresOf_X11_within : GoodIn wsX11_faresOf (va_wsS RX11 324 yX11_within wsX11_within) := goodIn_app (goodIn_of _ (by decide +kernel)) ggX11_faresOf_X11_within
theorem dX11_faresOf_0 : decode cX11_faresOf 0 = .ok (.aload_n 0, 1) := dc1_42 (by decide +kernel)
theorem dX11_faresOf_1 : decode cX11_faresOf 1 = .ok (.iload_n 1, 1) := dc1_27 (by decide +kernel)
theorem dX11_faresOf_2 : decode cX11_faresOf 2 = .ok (.invokevirtual 315, 3) := dcw_182 (by decide +kernel)
theorem dX11_faresOf_5 : decode cX11_faresOf 5 = .ok (.aload_n 0, 1) := dc1_42 (by decide +kernel)
theorem dX11_faresOf_6 : decode cX11_faresOf 6 = .ok (.iconst 1, 1) := dc1_4 (by decide +kernel)
theorem dX11_faresOf_7 : decode cX11_faresOf 7 = .ok (.iconst 1, 1) := dc1_4 (by decide +kernel)
theorem dX11_faresOf_8 : decode cX11_faresOf 8 = .ok (.invokevirtual 321, 3) := dcw_182 (by decide +kernel)
theorem dX11_faresOf_11 : decode cX11_faresOf 11 = .ok (.iconst 0, 1) := dc1_3 (by decide +kernel)
theorem dX11_faresOf_12 : decode cX11_faresOf 12 = .ok (.bipush 99, 2) := dcb_16 (n := 99) (by decide +kernel)
theorem dX11_faresOf_14 : decode cX11_faresOf 14 = .ok (.invokestatic 324, 3) := dcw_184 (by decide +kernel)
theorem dX11_faresOf_17 : decode cX11_faresOf 17 = .ok (.ireturn, 1) := dc1_172 (by decide +kernel)
theorem ggX11_doesDare_X11_looks : GoodIn wsX11_doesDare wsX11_looks := gi_sub (fun w h => List.mem_cons_of_mem _ (List.mem_append_left _ (List.mem_append_right _ (List.mem_append_left _ h)))) gd_wsX11_looks
set_option maxRecDepth 20000 in
theorem gX11_doesDare_X11_looks : GoodIn wsX11_doesDare (wsV RX11 315 RX11 yX11_looks wsX11_looks) := goodIn_app (goodIn_r _ [1, 2, 3, 4] (by decide +kernel) (by decide +kernel)) ggX11_doesDare_X11_looks
theorem ggX11_doesDare_X11_lawTells : GoodIn wsX11_doesDare wsX11_lawTells := gi_sub (fun w h => List.mem_cons_of_mem _ (List.mem_append_left _ (List.mem_append_right _ (List.mem_append_right _ h)))) gd_wsX11_lawTells
set_option maxRecDepth 20000 in
theorem gX11_doesDare_X11_lawTells : GoodIn wsX11_doesDare (wsV RX11 321 RX11 yX11_lawTells wsX11_lawTells) := goodIn_app (goodIn_r _ [5, 6, 7, 4] (by decide +kernel) (by decide +kernel)) ggX11_doesDare_X11_lawTells
theorem dX11_doesDare_0 : decode cX11_doesDare 0 = .ok (.aload_n 0, 1) := dc1_42 (by decide +kernel)
theorem dX11_doesDare_1 : decode cX11_doesDare 1 = .ok (.iload_n 1, 1) := dc1_27 (by decide +kernel)
theorem dX11_doesDare_2 : decode cX11_doesDare 2 = .ok (.invokevirtual 315, 3) := dcw_182 (by decide +kernel)
theorem dX11_doesDare_5 : decode cX11_doesDare 5 = .ok (.aload_n 0, 1) := dc1_42 (by decide +kernel)
theorem dX11_doesDare_6 : decode cX11_doesDare 6 = .ok (.iconst 2, 1) := dc1_5 (by decide +kernel)
theorem dX11_doesDare_7 : decode cX11_doesDare 7 = .ok (.iconst 1, 1) := dc1_4 (by decide +kernel)
theorem dX11_doesDare_8 : decode cX11_doesDare 8 = .ok (.invokevirtual 321, 3) := dcw_182 (by decide +kernel)
theorem dX11_doesDare_11 : decode cX11_doesDare 11 = .ok (.ifCond .le 7, 3) := dcs_158 (n := 7) (by decide +kernel)
theorem dX11_doesDare_14 : decode cX11_doesDare 14 = .ok (.iconst 1, 1) := dc1_4 (by decide +kernel)
theorem dX11_doesDare_15 : decode cX11_doesDare 15 = .ok (.goto 4, 3) := dcs_167 (n := 4) (by decide +kernel)
theorem dX11_doesDare_18 : decode cX11_doesDare 18 = .ok (.iconst 0, 1) := dc1_3 (by decide +kernel)
theorem dX11_doesDare_19 : decode cX11_doesDare 19 = .ok (.ireturn, 1) := dc1_172 (by decide +kernel)
theorem ggX11_shiftsOf_X11_looks : GoodIn wsX11_shiftsOf wsX11_looks := gi_sub (fun w h => List.mem_cons_of_mem _ (List.mem_append_left _ (List.mem_append_right _ (List.mem_append_left _ h)))) gd_wsX11_looks
set_option maxRecDepth 20000 in
theorem gX11_shiftsOf_X11_looks : GoodIn wsX11_shiftsOf (wsV RX11 315 RX11 yX11_looks wsX11_looks) := goodIn_app (goodIn_r _ [1, 2, 3, 4] (by decide +kernel) (by decide +kernel)) ggX11_shiftsOf_X11_looks
theorem ggX11_shiftsOf_X11_looksOver : GoodIn wsX11_shiftsOf wsX11_looksOver := gi_sub (fun w h => List.mem_cons_of_mem _ (List.mem_append_left _ (List.mem_append_right _ (List.mem_append_right _ (List.mem_append_left _ h))))) gd_wsX11_looksOver
set_option maxRecDepth 20000 in
theorem gX11_shiftsOf_X11_looksOver : GoodIn wsX11_shiftsOf (wsV RX11 318 RX11 yX11_looksOver wsX11_looksOver) := goodIn_app (goodIn_r _ [5, 6, 7, 4] (by decide +kernel) (by decide +kernel)) ggX11_shiftsOf_X11_looksOver
theorem ggX11_shiftsOf_X11_lawTells : GoodIn wsX11_shiftsOf wsX11_lawTells := gi_sub (fun w h => List.mem_cons_of_mem _ (List.mem_append_left _ (List.mem_append_right _ (List.mem_append_right _ (List.mem_append_right _ (List.mem_append_left _ h)))))) gd_wsX11_lawTells
set_option maxRecDepth 20000 in
theorem gX11_shiftsOf_X11_lawTells : GoodIn wsX11_shiftsOf (wsV RX11 321 RX11 yX11_lawTells wsX11_lawTells) := goodIn_app (goodIn_r _ [8, 9, 10, 4] (by decide +kernel) (by decide +kernel)) ggX11_shiftsOf_X11_lawTells
theorem ggX11_shiftsOf_X11_within : GoodIn wsX11_shiftsOf wsX11_within := gi_sub (fun w h => List.mem_cons_of_mem _ (List.mem_append_left _ (List.mem_append_right _ (List.mem_append_right _ (List.mem_append_right _ (List.mem_append_right _ h)))))) gd_wsX11_within
set_option maxRecDepth 20000 in
theorem gX11_shiftsOf_X11_within : GoodIn wsX11_shiftsOf (va_wsS RX11 324 yX11_within wsX11_within) := goodIn_app (goodIn_of _ (by decide +kernel)) ggX11_shiftsOf_X11_within
theorem dX11_shiftsOf_0 : decode cX11_shiftsOf 0 = .ok (.aload_n 0, 1) := dc1_42 (by decide +kernel)
theorem dX11_shiftsOf_1 : decode cX11_shiftsOf 1 = .ok (.iconst (-1), 1) := dc1_2 (by decide +kernel)
theorem dX11_shiftsOf_2 : decode cX11_shiftsOf 2 = .ok (.invokevirtual 315, 3) := dcw_182 (by decide +kernel)
theorem dX11_shiftsOf_5 : decode cX11_shiftsOf 5 = .ok (.aload_n 0, 1) := dc1_42 (by decide +kernel)
theorem dX11_shiftsOf_6 : decode cX11_shiftsOf 6 = .ok (.iload_n 1, 1) := dc1_27 (by decide +kernel)
theorem dX11_shiftsOf_7 : decode cX11_shiftsOf 7 = .ok (.invokevirtual 318, 3) := dcw_182 (by decide +kernel)
theorem dX11_shiftsOf_10 : decode cX11_shiftsOf 10 = .ok (.aload_n 0, 1) := dc1_42 (by decide +kernel)
theorem dX11_shiftsOf_11 : decode cX11_shiftsOf 11 = .ok (.iconst 3, 1) := dc1_6 (by decide +kernel)
theorem dX11_shiftsOf_12 : decode cX11_shiftsOf 12 = .ok (.iconst 0, 1) := dc1_3 (by decide +kernel)
theorem dX11_shiftsOf_13 : decode cX11_shiftsOf 13 = .ok (.invokevirtual 321, 3) := dcw_182 (by decide +kernel)
theorem dX11_shiftsOf_16 : decode cX11_shiftsOf 16 = .ok (.iconst 0, 1) := dc1_3 (by decide +kernel)
theorem dX11_shiftsOf_17 : decode cX11_shiftsOf 17 = .ok (.bipush 100, 2) := dcb_16 (n := 100) (by decide +kernel)
theorem dX11_shiftsOf_19 : decode cX11_shiftsOf 19 = .ok (.invokestatic 324, 3) := dcw_184 (by decide +kernel)
theorem dX11_shiftsOf_22 : decode cX11_shiftsOf 22 = .ok (.ireturn, 1) := dc1_172 (by decide +kernel)
theorem ggX11_doesBear_X11_oddsAt : GoodIn wsX11_doesBear wsX11_oddsAt := gi_sub (fun w h => List.mem_cons_of_mem _ (List.mem_append_left _ (List.mem_append_right _ (List.mem_append_left _ h)))) gd_wsX11_oddsAt
set_option maxRecDepth 20000 in
theorem gX11_doesBear_X11_oddsAt : GoodIn wsX11_doesBear (wsV RX11 297 RX11 yX11_oddsAt wsX11_oddsAt) := goodIn_app (goodIn_r _ [1, 2, 3, 4] (by decide +kernel) (by decide +kernel)) ggX11_doesBear_X11_oddsAt
theorem ggX11_doesBear_X11_needsOf : GoodIn wsX11_doesBear wsX11_needsOf := gi_sub (fun w h => List.mem_cons_of_mem _ (List.mem_append_left _ (List.mem_append_right _ (List.mem_append_right _ h)))) gd_wsX11_needsOf
set_option maxRecDepth 20000 in
theorem gX11_doesBear_X11_needsOf : GoodIn wsX11_doesBear (wsV RX11 327 RX11 yX11_needsOf wsX11_needsOf) := goodIn_app (goodIn_r _ [5, 6, 7, 4] (by decide +kernel) (by decide +kernel)) ggX11_doesBear_X11_needsOf
theorem dX11_doesBear_0 : decode cX11_doesBear 0 = .ok (.aload_n 0, 1) := dc1_42 (by decide +kernel)
theorem dX11_doesBear_1 : decode cX11_doesBear 1 = .ok (.iload_n 2, 1) := dc1_28 (by decide +kernel)
theorem dX11_doesBear_2 : decode cX11_doesBear 2 = .ok (.iload_n 3, 1) := dc1_29 (by decide +kernel)
theorem dX11_doesBear_3 : decode cX11_doesBear 3 = .ok (.invokevirtual 297, 3) := dcw_182 (by decide +kernel)
theorem dX11_doesBear_6 : decode cX11_doesBear 6 = .ok (.aload_n 0, 1) := dc1_42 (by decide +kernel)
theorem dX11_doesBear_7 : decode cX11_doesBear 7 = .ok (.iload_n 1, 1) := dc1_27 (by decide +kernel)
theorem dX11_doesBear_8 : decode cX11_doesBear 8 = .ok (.iload_n 2, 1) := dc1_28 (by decide +kernel)
theorem dX11_doesBear_9 : decode cX11_doesBear 9 = .ok (.iload_n 3, 1) := dc1_29 (by decide +kernel)
theorem dX11_doesBear_10 : decode cX11_doesBear 10 = .ok (.invokevirtual 327, 3) := dcw_182 (by decide +kernel)
theorem dX11_doesBear_13 : decode cX11_doesBear 13 = .ok (.if_icmp .lt 7, 3) := dcs_161 (n := 7) (by decide +kernel)
theorem dX11_doesBear_16 : decode cX11_doesBear 16 = .ok (.iconst 1, 1) := dc1_4 (by decide +kernel)
theorem dX11_doesBear_17 : decode cX11_doesBear 17 = .ok (.goto 4, 3) := dcs_167 (n := 4) (by decide +kernel)
theorem dX11_doesBear_20 : decode cX11_doesBear 20 = .ok (.iconst 0, 1) := dc1_3 (by decide +kernel)
theorem dX11_doesBear_21 : decode cX11_doesBear 21 = .ok (.ireturn, 1) := dc1_172 (by decide +kernel)
theorem ggX11_bearsBy_X11_thingAt : GoodIn wsX11_bearsBy wsX11_thingAt := gi_sub (fun w h => List.mem_cons_of_mem _ (List.mem_append_left _ (List.mem_append_right _ (List.mem_append_left _ h)))) gd_wsX11_thingAt
set_option maxRecDepth 20000 in
theorem gX11_bearsBy_X11_thingAt : GoodIn wsX11_bearsBy (wsV RX11 330 RX11 yX11_thingAt wsX11_thingAt) := goodIn_app (goodIn_r _ [3, 4, 5, 6] (by decide +kernel) (by decide +kernel)) ggX11_bearsBy_X11_thingAt
theorem ggX11_bearsBy_X11_doesBear : GoodIn wsX11_bearsBy wsX11_doesBear := gi_sub (fun w h => List.mem_cons_of_mem _ (List.mem_append_left _ (List.mem_append_right _ (List.mem_append_right _ h)))) gd_wsX11_doesBear
set_option maxRecDepth 20000 in
theorem gX11_bearsBy_X11_doesBear : GoodIn wsX11_bearsBy (wsV RX11 333 RX11 yX11_doesBear wsX11_doesBear) := goodIn_app (goodIn_r _ [7, 8, 9, 6] (by decide +kernel) (by decide +kernel)) ggX11_bearsBy_X11_doesBear
theorem dX11_bearsBy_0 : decode cX11_bearsBy 0 = .ok (.iconst 0, 1) := dc1_3 (by decide +kernel)
theorem dX11_bearsBy_1 : decode cX11_bearsBy 1 = .ok (.istore_n 3, 1) := dc1_62 (by decide +kernel)
theorem dX11_bearsBy_2 : decode cX11_bearsBy 2 = .ok (.iload_n 3, 1) := dc1_29 (by decide +kernel)
theorem dX11_bearsBy_3 : decode cX11_bearsBy 3 = .ok (.aload_n 0, 1) := dc1_42 (by decide +kernel)
theorem dX11_bearsBy_4 : decode cX11_bearsBy 4 = .ok (.getfield 40, 3) := dcw_180 (by decide +kernel)
theorem dX11_bearsBy_7 : decode cX11_bearsBy 7 = .ok (.aload_n 0, 1) := dc1_42 (by decide +kernel)
theorem dX11_bearsBy_8 : decode cX11_bearsBy 8 = .ok (.getfield 215, 3) := dcw_180 (by decide +kernel)
theorem dX11_bearsBy_11 : decode cX11_bearsBy 11 = .ok (.iaload, 1) := dc1_46 (by decide +kernel)
theorem dX11_bearsBy_12 : decode cX11_bearsBy 12 = .ok (.if_icmp .ge 24, 3) := dcs_162 (n := 24) (by decide +kernel)
theorem dX11_bearsBy_15 : decode cX11_bearsBy 15 = .ok (.aload_n 0, 1) := dc1_42 (by decide +kernel)
theorem dX11_bearsBy_16 : decode cX11_bearsBy 16 = .ok (.iload_n 1, 1) := dc1_27 (by decide +kernel)
theorem dX11_bearsBy_17 : decode cX11_bearsBy 17 = .ok (.iload_n 3, 1) := dc1_29 (by decide +kernel)
theorem dX11_bearsBy_18 : decode cX11_bearsBy 18 = .ok (.aload_n 0, 1) := dc1_42 (by decide +kernel)
theorem dX11_bearsBy_19 : decode cX11_bearsBy 19 = .ok (.iload_n 2, 1) := dc1_28 (by decide +kernel)
theorem dX11_bearsBy_20 : decode cX11_bearsBy 20 = .ok (.iload_n 3, 1) := dc1_29 (by decide +kernel)
theorem dX11_bearsBy_21 : decode cX11_bearsBy 21 = .ok (.invokevirtual 330, 3) := dcw_182 (by decide +kernel)
theorem dX11_bearsBy_24 : decode cX11_bearsBy 24 = .ok (.invokevirtual 333, 3) := dcw_182 (by decide +kernel)
theorem dX11_bearsBy_27 : decode cX11_bearsBy 27 = .ok (.ifCond .eq 9, 3) := dcs_153 (n := 9) (by decide +kernel)
theorem dX11_bearsBy_30 : decode cX11_bearsBy 30 = .ok (.iinc 3 1, 3) := dc_iinc (m := 1) (by decide +kernel)
theorem dX11_bearsBy_33 : decode cX11_bearsBy 33 = .ok (.goto (-31), 3) := dcs_167 (n := 65505) (by decide +kernel)
theorem dX11_bearsBy_36 : decode cX11_bearsBy 36 = .ok (.iload_n 3, 1) := dc1_29 (by decide +kernel)
theorem dX11_bearsBy_37 : decode cX11_bearsBy 37 = .ok (.ireturn, 1) := dc1_172 (by decide +kernel)
theorem ggX11_goesBy_X11_bearsBy : GoodIn wsX11_goesBy wsX11_bearsBy := gi_sub (fun w h => List.mem_cons_of_mem _ (List.mem_append_left _ (List.mem_append_right _ (List.mem_append_left _ h)))) gd_wsX11_bearsBy
set_option maxRecDepth 20000 in
theorem gX11_goesBy_X11_bearsBy : GoodIn wsX11_goesBy (wsV RX11 336 RX11 yX11_bearsBy wsX11_bearsBy) := goodIn_app (goodIn_r _ [4, 5, 6, 7] (by decide +kernel) (by decide +kernel)) ggX11_goesBy_X11_bearsBy
theorem ggX11_goesBy_X11_faresOf : GoodIn wsX11_goesBy wsX11_faresOf := gi_sub (fun w h => List.mem_cons_of_mem _ (List.mem_append_left _ (List.mem_append_right _ (List.mem_append_right _ (List.mem_append_left _ h))))) gd_wsX11_faresOf
set_option maxRecDepth 20000 in
theorem gX11_goesBy_X11_faresOf : GoodIn wsX11_goesBy (wsV RX11 339 RX11 yX11_faresOf wsX11_faresOf) := goodIn_app (goodIn_r _ [11, 12, 13, 7] (by decide +kernel) (by decide +kernel)) ggX11_goesBy_X11_faresOf
theorem ggX11_goesBy_X11_thingAt : GoodIn wsX11_goesBy wsX11_thingAt := gi_sub (fun w h => List.mem_cons_of_mem _ (List.mem_append_left _ (List.mem_append_right _ (List.mem_append_right _ (List.mem_append_right _ h))))) gd_wsX11_thingAt
set_option maxRecDepth 20000 in
theorem gX11_goesBy_X11_thingAt : GoodIn wsX11_goesBy (wsV RX11 330 RX11 yX11_thingAt wsX11_thingAt) := goodIn_app (goodIn_r _ [8, 9, 10, 7] (by decide +kernel) (by decide +kernel)) ggX11_goesBy_X11_thingAt
theorem dX11_goesBy_0 : decode cX11_goesBy 0 = .ok (.aload_n 0, 1) := dc1_42 (by decide +kernel)
theorem dX11_goesBy_1 : decode cX11_goesBy 1 = .ok (.iload_n 1, 1) := dc1_27 (by decide +kernel)
theorem dX11_goesBy_2 : decode cX11_goesBy 2 = .ok (.iload_n 2, 1) := dc1_28 (by decide +kernel)
theorem dX11_goesBy_3 : decode cX11_goesBy 3 = .ok (.invokevirtual 336, 3) := dcw_182 (by decide +kernel)
theorem dX11_goesBy_6 : decode cX11_goesBy 6 = .ok (.istore 4, 2) := dcu_54 (by decide +kernel)
theorem dX11_goesBy_8 : decode cX11_goesBy 8 = .ok (.aload_n 0, 1) := dc1_42 (by decide +kernel)
theorem dX11_goesBy_9 : decode cX11_goesBy 9 = .ok (.getfield 101, 3) := dcw_180 (by decide +kernel)
theorem dX11_goesBy_12 : decode cX11_goesBy 12 = .ok (.bipush 28, 2) := dcb_16 (n := 28) (by decide +kernel)
theorem dX11_goesBy_14 : decode cX11_goesBy 14 = .ok (.dup2, 1) := dc1_92 (by decide +kernel)
theorem dX11_goesBy_15 : decode cX11_goesBy 15 = .ok (.iaload, 1) := dc1_46 (by decide +kernel)
theorem dX11_goesBy_16 : decode cX11_goesBy 16 = .ok (.aload_n 0, 1) := dc1_42 (by decide +kernel)
theorem dX11_goesBy_17 : decode cX11_goesBy 17 = .ok (.iload_n 1, 1) := dc1_27 (by decide +kernel)
theorem dX11_goesBy_18 : decode cX11_goesBy 18 = .ok (.invokevirtual 339, 3) := dcw_182 (by decide +kernel)
theorem dX11_goesBy_21 : decode cX11_goesBy 21 = .ok (.iadd, 1) := dc1_96 (by decide +kernel)
theorem dX11_goesBy_22 : decode cX11_goesBy 22 = .ok (.iastore, 1) := dc1_79 (by decide +kernel)
theorem dX11_goesBy_23 : decode cX11_goesBy 23 = .ok (.aload_n 0, 1) := dc1_42 (by decide +kernel)
theorem dX11_goesBy_24 : decode cX11_goesBy 24 = .ok (.getfield 101, 3) := dcw_180 (by decide +kernel)
theorem dX11_goesBy_27 : decode cX11_goesBy 27 = .ok (.bipush 21, 2) := dcb_16 (n := 21) (by decide +kernel)
theorem dX11_goesBy_29 : decode cX11_goesBy 29 = .ok (.iload_n 1, 1) := dc1_27 (by decide +kernel)
theorem dX11_goesBy_30 : decode cX11_goesBy 30 = .ok (.iadd, 1) := dc1_96 (by decide +kernel)
theorem dX11_goesBy_31 : decode cX11_goesBy 31 = .ok (.dup2, 1) := dc1_92 (by decide +kernel)
theorem dX11_goesBy_32 : decode cX11_goesBy 32 = .ok (.iaload, 1) := dc1_46 (by decide +kernel)
theorem dX11_goesBy_33 : decode cX11_goesBy 33 = .ok (.iconst 1, 1) := dc1_4 (by decide +kernel)
theorem dX11_goesBy_34 : decode cX11_goesBy 34 = .ok (.iadd, 1) := dc1_96 (by decide +kernel)
theorem dX11_goesBy_35 : decode cX11_goesBy 35 = .ok (.iastore, 1) := dc1_79 (by decide +kernel)
theorem dX11_goesBy_36 : decode cX11_goesBy 36 = .ok (.iconst 0, 1) := dc1_3 (by decide +kernel)
theorem dX11_goesBy_37 : decode cX11_goesBy 37 = .ok (.istore 5, 2) := dcu_54 (by decide +kernel)
theorem dX11_goesBy_39 : decode cX11_goesBy 39 = .ok (.iload 5, 2) := dcu_21 (by decide +kernel)
theorem dX11_goesBy_41 : decode cX11_goesBy 41 = .ok (.aload_n 0, 1) := dc1_42 (by decide +kernel)
theorem dX11_goesBy_42 : decode cX11_goesBy 42 = .ok (.getfield 40, 3) := dcw_180 (by decide +kernel)
theorem dX11_goesBy_45 : decode cX11_goesBy 45 = .ok (.aload_n 0, 1) := dc1_42 (by decide +kernel)
theorem dX11_goesBy_46 : decode cX11_goesBy 46 = .ok (.getfield 215, 3) := dcw_180 (by decide +kernel)
theorem dX11_goesBy_49 : decode cX11_goesBy 49 = .ok (.iaload, 1) := dc1_46 (by decide +kernel)
theorem dX11_goesBy_50 : decode cX11_goesBy 50 = .ok (.if_icmp .ge 78, 3) := dcs_162 (n := 78) (by decide +kernel)
theorem dX11_goesBy_53 : decode cX11_goesBy 53 = .ok (.aload_n 0, 1) := dc1_42 (by decide +kernel)
theorem dX11_goesBy_54 : decode cX11_goesBy 54 = .ok (.iload_n 2, 1) := dc1_28 (by decide +kernel)
theorem dX11_goesBy_55 : decode cX11_goesBy 55 = .ok (.iload 5, 2) := dcu_21 (by decide +kernel)
theorem dX11_goesBy_57 : decode cX11_goesBy 57 = .ok (.invokevirtual 330, 3) := dcw_182 (by decide +kernel)
theorem dX11_goesBy_60 : decode cX11_goesBy 60 = .ok (.istore 6, 2) := dcu_54 (by decide +kernel)
theorem dX11_goesBy_62 : decode cX11_goesBy 62 = .ok (.iload 5, 2) := dcu_21 (by decide +kernel)
theorem dX11_goesBy_64 : decode cX11_goesBy 64 = .ok (.iload 4, 2) := dcu_21 (by decide +kernel)
theorem dX11_goesBy_66 : decode cX11_goesBy 66 = .ok (.if_icmp .ne 16, 3) := dcs_160 (n := 16) (by decide +kernel)
theorem dX11_goesBy_69 : decode cX11_goesBy 69 = .ok (.aload_n 0, 1) := dc1_42 (by decide +kernel)
theorem dX11_goesBy_70 : decode cX11_goesBy 70 = .ok (.getfield 101, 3) := dcw_180 (by decide +kernel)
theorem dX11_goesBy_73 : decode cX11_goesBy 73 = .ok (.bipush 15, 2) := dcb_16 (n := 15) (by decide +kernel)
theorem dX11_goesBy_75 : decode cX11_goesBy 75 = .ok (.iload_n 1, 1) := dc1_27 (by decide +kernel)
theorem dX11_goesBy_76 : decode cX11_goesBy 76 = .ok (.iadd, 1) := dc1_96 (by decide +kernel)
theorem dX11_goesBy_77 : decode cX11_goesBy 77 = .ok (.iconst 1, 1) := dc1_4 (by decide +kernel)
theorem dX11_goesBy_78 : decode cX11_goesBy 78 = .ok (.iastore, 1) := dc1_79 (by decide +kernel)
theorem dX11_goesBy_79 : decode cX11_goesBy 79 = .ok (.iload 5, 2) := dcu_21 (by decide +kernel)
theorem dX11_goesBy_81 : decode cX11_goesBy 81 = .ok (.ireturn, 1) := dc1_172 (by decide +kernel)
theorem dX11_goesBy_82 : decode cX11_goesBy 82 = .ok (.iload 6, 2) := dcu_21 (by decide +kernel)
theorem dX11_goesBy_84 : decode cX11_goesBy 84 = .ok (.aload_n 0, 1) := dc1_42 (by decide +kernel)
theorem dX11_goesBy_85 : decode cX11_goesBy 85 = .ok (.iload_n 3, 1) := dc1_29 (by decide +kernel)
theorem dX11_goesBy_86 : decode cX11_goesBy 86 = .ok (.iload 5, 2) := dcu_21 (by decide +kernel)
theorem dX11_goesBy_88 : decode cX11_goesBy 88 = .ok (.invokevirtual 330, 3) := dcw_182 (by decide +kernel)
theorem dX11_goesBy_91 : decode cX11_goesBy 91 = .ok (.if_icmp .eq 20, 3) := dcs_159 (n := 20) (by decide +kernel)
theorem dX11_goesBy_94 : decode cX11_goesBy 94 = .ok (.aload_n 0, 1) := dc1_42 (by decide +kernel)
theorem dX11_goesBy_95 : decode cX11_goesBy 95 = .ok (.getfield 101, 3) := dcw_180 (by decide +kernel)
theorem dX11_goesBy_98 : decode cX11_goesBy 98 = .ok (.iload 5, 2) := dcu_21 (by decide +kernel)
theorem dX11_goesBy_100 : decode cX11_goesBy 100 = .ok (.dup2, 1) := dc1_92 (by decide +kernel)
theorem dX11_goesBy_101 : decode cX11_goesBy 101 = .ok (.iaload, 1) := dc1_46 (by decide +kernel)
theorem dX11_goesBy_102 : decode cX11_goesBy 102 = .ok (.iconst 1, 1) := dc1_4 (by decide +kernel)
theorem dX11_goesBy_103 : decode cX11_goesBy 103 = .ok (.iload 6, 2) := dcu_21 (by decide +kernel)
theorem dX11_goesBy_105 : decode cX11_goesBy 105 = .ok (.ishl, 1) := dc1_120 (by decide +kernel)
theorem dX11_goesBy_106 : decode cX11_goesBy 106 = .ok (.ior, 1) := dc1_128 (by decide +kernel)
theorem dX11_goesBy_107 : decode cX11_goesBy 107 = .ok (.iastore, 1) := dc1_79 (by decide +kernel)
theorem dX11_goesBy_108 : decode cX11_goesBy 108 = .ok (.iload 5, 2) := dcu_21 (by decide +kernel)
theorem dX11_goesBy_110 : decode cX11_goesBy 110 = .ok (.ireturn, 1) := dc1_172 (by decide +kernel)
theorem dX11_goesBy_111 : decode cX11_goesBy 111 = .ok (.aload_n 0, 1) := dc1_42 (by decide +kernel)
theorem dX11_goesBy_112 : decode cX11_goesBy 112 = .ok (.getfield 101, 3) := dcw_180 (by decide +kernel)
theorem dX11_goesBy_115 : decode cX11_goesBy 115 = .ok (.iconst 5, 1) := dc1_8 (by decide +kernel)
theorem dX11_goesBy_116 : decode cX11_goesBy 116 = .ok (.iload 5, 2) := dcu_21 (by decide +kernel)
theorem dX11_goesBy_118 : decode cX11_goesBy 118 = .ok (.iadd, 1) := dc1_96 (by decide +kernel)
theorem dX11_goesBy_119 : decode cX11_goesBy 119 = .ok (.iload 6, 2) := dcu_21 (by decide +kernel)
theorem dX11_goesBy_121 : decode cX11_goesBy 121 = .ok (.iastore, 1) := dc1_79 (by decide +kernel)
theorem dX11_goesBy_122 : decode cX11_goesBy 122 = .ok (.iinc 5 1, 3) := dc_iinc (m := 1) (by decide +kernel)
theorem dX11_goesBy_125 : decode cX11_goesBy 125 = .ok (.goto (-86), 3) := dcs_167 (n := 65450) (by decide +kernel)
theorem dX11_goesBy_128 : decode cX11_goesBy 128 = .ok (.aload_n 0, 1) := dc1_42 (by decide +kernel)
theorem dX11_goesBy_129 : decode cX11_goesBy 129 = .ok (.getfield 101, 3) := dcw_180 (by decide +kernel)
theorem dX11_goesBy_132 : decode cX11_goesBy 132 = .ok (.bipush 15, 2) := dcb_16 (n := 15) (by decide +kernel)
theorem dX11_goesBy_134 : decode cX11_goesBy 134 = .ok (.iload_n 1, 1) := dc1_27 (by decide +kernel)
theorem dX11_goesBy_135 : decode cX11_goesBy 135 = .ok (.iadd, 1) := dc1_96 (by decide +kernel)
theorem dX11_goesBy_136 : decode cX11_goesBy 136 = .ok (.iconst 2, 1) := dc1_5 (by decide +kernel)
theorem dX11_goesBy_137 : decode cX11_goesBy 137 = .ok (.iastore, 1) := dc1_79 (by decide +kernel)
theorem dX11_goesBy_138 : decode cX11_goesBy 138 = .ok (.aload_n 0, 1) := dc1_42 (by decide +kernel)
theorem dX11_goesBy_139 : decode cX11_goesBy 139 = .ok (.getfield 40, 3) := dcw_180 (by decide +kernel)
theorem dX11_goesBy_142 : decode cX11_goesBy 142 = .ok (.aload_n 0, 1) := dc1_42 (by decide +kernel)
theorem dX11_goesBy_143 : decode cX11_goesBy 143 = .ok (.getfield 215, 3) := dcw_180 (by decide +kernel)
theorem dX11_goesBy_146 : decode cX11_goesBy 146 = .ok (.iaload, 1) := dc1_46 (by decide +kernel)
theorem dX11_goesBy_147 : decode cX11_goesBy 147 = .ok (.ireturn, 1) := dc1_172 (by decide +kernel)
theorem ggX11_yearGoes_X11_lotOf : GoodIn wsX11_yearGoes wsX11_lotOf := gi_sub (fun w h => List.mem_cons_of_mem _ (List.mem_append_left _ (List.mem_append_right _ (List.mem_append_left _ h)))) gd_wsX11_lotOf
set_option maxRecDepth 20000 in
theorem gX11_yearGoes_X11_lotOf : GoodIn wsX11_yearGoes (wsV RX11 300 RX11 yX11_lotOf wsX11_lotOf) := goodIn_app (goodIn_r _ [6, 7, 8, 9] (by decide +kernel) (by decide +kernel)) ggX11_yearGoes_X11_lotOf
theorem ggX11_yearGoes_X11_shiftsOf : GoodIn wsX11_yearGoes wsX11_shiftsOf := gi_sub (fun w h => List.mem_cons_of_mem _ (List.mem_append_left _ (List.mem_append_right _ (List.mem_append_right _ h)))) gd_wsX11_shiftsOf
set_option maxRecDepth 20000 in
theorem gX11_yearGoes_X11_shiftsOf : GoodIn wsX11_yearGoes (wsV RX11 343 RX11 yX11_shiftsOf wsX11_shiftsOf) := goodIn_app (goodIn_r _ [10, 11, 12, 9] (by decide +kernel) (by decide +kernel)) ggX11_yearGoes_X11_shiftsOf
theorem dX11_yearGoes_0 : decode cX11_yearGoes 0 = .ok (.iconst 0, 1) := dc1_3 (by decide +kernel)
theorem dX11_yearGoes_1 : decode cX11_yearGoes 1 = .ok (.istore_n 1, 1) := dc1_60 (by decide +kernel)
theorem dX11_yearGoes_2 : decode cX11_yearGoes 2 = .ok (.iload_n 1, 1) := dc1_27 (by decide +kernel)
theorem dX11_yearGoes_3 : decode cX11_yearGoes 3 = .ok (.aload_n 0, 1) := dc1_42 (by decide +kernel)
theorem dX11_yearGoes_4 : decode cX11_yearGoes 4 = .ok (.getfield 40, 3) := dcw_180 (by decide +kernel)
theorem dX11_yearGoes_7 : decode cX11_yearGoes 7 = .ok (.aload_n 0, 1) := dc1_42 (by decide +kernel)
theorem dX11_yearGoes_8 : decode cX11_yearGoes 8 = .ok (.getfield 215, 3) := dcw_180 (by decide +kernel)
theorem dX11_yearGoes_11 : decode cX11_yearGoes 11 = .ok (.iaload, 1) := dc1_46 (by decide +kernel)
theorem dX11_yearGoes_12 : decode cX11_yearGoes 12 = .ok (.if_icmp .ge 50, 3) := dcs_162 (n := 50) (by decide +kernel)
theorem dX11_yearGoes_15 : decode cX11_yearGoes 15 = .ok (.aload_n 0, 1) := dc1_42 (by decide +kernel)
theorem dX11_yearGoes_16 : decode cX11_yearGoes 16 = .ok (.getfield 107, 3) := dcw_180 (by decide +kernel)
theorem dX11_yearGoes_19 : decode cX11_yearGoes 19 = .ok (.iload_n 1, 1) := dc1_27 (by decide +kernel)
theorem dX11_yearGoes_20 : decode cX11_yearGoes 20 = .ok (.aload_n 0, 1) := dc1_42 (by decide +kernel)
theorem dX11_yearGoes_21 : decode cX11_yearGoes 21 = .ok (.bipush 8, 2) := dcb_16 (n := 8) (by decide +kernel)
theorem dX11_yearGoes_23 : decode cX11_yearGoes 23 = .ok (.aload_n 0, 1) := dc1_42 (by decide +kernel)
theorem dX11_yearGoes_24 : decode cX11_yearGoes 24 = .ok (.getfield 101, 3) := dcw_180 (by decide +kernel)
theorem dX11_yearGoes_27 : decode cX11_yearGoes 27 = .ok (.bipush 27, 2) := dcb_16 (n := 27) (by decide +kernel)
theorem dX11_yearGoes_29 : decode cX11_yearGoes 29 = .ok (.iaload, 1) := dc1_46 (by decide +kernel)
theorem dX11_yearGoes_30 : decode cX11_yearGoes 30 = .ok (.imul, 1) := dc1_104 (by decide +kernel)
theorem dX11_yearGoes_31 : decode cX11_yearGoes 31 = .ok (.ldc_w 342, 3) := dcw_19 (by decide +kernel)
theorem dX11_yearGoes_34 : decode cX11_yearGoes 34 = .ok (.iadd, 1) := dc1_96 (by decide +kernel)
theorem dX11_yearGoes_35 : decode cX11_yearGoes 35 = .ok (.iload_n 1, 1) := dc1_27 (by decide +kernel)
theorem dX11_yearGoes_36 : decode cX11_yearGoes 36 = .ok (.iadd, 1) := dc1_96 (by decide +kernel)
theorem dX11_yearGoes_37 : decode cX11_yearGoes 37 = .ok (.bipush 100, 2) := dcb_16 (n := 100) (by decide +kernel)
theorem dX11_yearGoes_39 : decode cX11_yearGoes 39 = .ok (.invokevirtual 300, 3) := dcw_182 (by decide +kernel)
theorem dX11_yearGoes_42 : decode cX11_yearGoes 42 = .ok (.aload_n 0, 1) := dc1_42 (by decide +kernel)
theorem dX11_yearGoes_43 : decode cX11_yearGoes 43 = .ok (.iload_n 1, 1) := dc1_27 (by decide +kernel)
theorem dX11_yearGoes_44 : decode cX11_yearGoes 44 = .ok (.invokevirtual 343, 3) := dcw_182 (by decide +kernel)
theorem dX11_yearGoes_47 : decode cX11_yearGoes 47 = .ok (.if_icmp .ge 7, 3) := dcs_162 (n := 7) (by decide +kernel)
theorem dX11_yearGoes_50 : decode cX11_yearGoes 50 = .ok (.iconst 1, 1) := dc1_4 (by decide +kernel)
theorem dX11_yearGoes_51 : decode cX11_yearGoes 51 = .ok (.goto 4, 3) := dcs_167 (n := 4) (by decide +kernel)
theorem dX11_yearGoes_54 : decode cX11_yearGoes 54 = .ok (.iconst 0, 1) := dc1_3 (by decide +kernel)
theorem dX11_yearGoes_55 : decode cX11_yearGoes 55 = .ok (.bastore, 1) := dc1_84 (by decide +kernel)
theorem dX11_yearGoes_56 : decode cX11_yearGoes 56 = .ok (.iinc 1 1, 3) := dc_iinc (m := 1) (by decide +kernel)
theorem dX11_yearGoes_59 : decode cX11_yearGoes 59 = .ok (.goto (-57), 3) := dcs_167 (n := 65479) (by decide +kernel)
theorem dX11_yearGoes_62 : decode cX11_yearGoes 62 = .ok (.iconst 0, 1) := dc1_3 (by decide +kernel)
theorem dX11_yearGoes_63 : decode cX11_yearGoes 63 = .ok (.istore_n 1, 1) := dc1_60 (by decide +kernel)
theorem dX11_yearGoes_64 : decode cX11_yearGoes 64 = .ok (.iload_n 1, 1) := dc1_27 (by decide +kernel)
theorem dX11_yearGoes_65 : decode cX11_yearGoes 65 = .ok (.aload_n 0, 1) := dc1_42 (by decide +kernel)
theorem dX11_yearGoes_66 : decode cX11_yearGoes 66 = .ok (.getfield 40, 3) := dcw_180 (by decide +kernel)
theorem dX11_yearGoes_69 : decode cX11_yearGoes 69 = .ok (.aload_n 0, 1) := dc1_42 (by decide +kernel)
theorem dX11_yearGoes_70 : decode cX11_yearGoes 70 = .ok (.getfield 215, 3) := dcw_180 (by decide +kernel)
theorem dX11_yearGoes_73 : decode cX11_yearGoes 73 = .ok (.iaload, 1) := dc1_46 (by decide +kernel)
theorem dX11_yearGoes_74 : decode cX11_yearGoes 74 = .ok (.if_icmp .ge 51, 3) := dcs_162 (n := 51) (by decide +kernel)
theorem dX11_yearGoes_77 : decode cX11_yearGoes 77 = .ok (.aload_n 0, 1) := dc1_42 (by decide +kernel)
theorem dX11_yearGoes_78 : decode cX11_yearGoes 78 = .ok (.getfield 107, 3) := dcw_180 (by decide +kernel)
theorem dX11_yearGoes_81 : decode cX11_yearGoes 81 = .ok (.iload_n 1, 1) := dc1_27 (by decide +kernel)
theorem dX11_yearGoes_82 : decode cX11_yearGoes 82 = .ok (.baload, 1) := dc1_51 (by decide +kernel)
theorem dX11_yearGoes_83 : decode cX11_yearGoes 83 = .ok (.ifCond .ne 6, 3) := dcs_154 (n := 6) (by decide +kernel)
theorem dX11_yearGoes_86 : decode cX11_yearGoes 86 = .ok (.goto 33, 3) := dcs_167 (n := 33) (by decide +kernel)
theorem dX11_yearGoes_89 : decode cX11_yearGoes 89 = .ok (.aload_n 0, 1) := dc1_42 (by decide +kernel)
theorem dX11_yearGoes_90 : decode cX11_yearGoes 90 = .ok (.getfield 101, 3) := dcw_180 (by decide +kernel)
theorem dX11_yearGoes_93 : decode cX11_yearGoes 93 = .ok (.iload_n 1, 1) := dc1_27 (by decide +kernel)
theorem dX11_yearGoes_94 : decode cX11_yearGoes 94 = .ok (.iconst 0, 1) := dc1_3 (by decide +kernel)
theorem dX11_yearGoes_95 : decode cX11_yearGoes 95 = .ok (.iastore, 1) := dc1_79 (by decide +kernel)
theorem dX11_yearGoes_96 : decode cX11_yearGoes 96 = .ok (.aload_n 0, 1) := dc1_42 (by decide +kernel)
theorem dX11_yearGoes_97 : decode cX11_yearGoes 97 = .ok (.getfield 101, 3) := dcw_180 (by decide +kernel)
theorem dX11_yearGoes_100 : decode cX11_yearGoes 100 = .ok (.iconst 5, 1) := dc1_8 (by decide +kernel)
theorem dX11_yearGoes_101 : decode cX11_yearGoes 101 = .ok (.iload_n 1, 1) := dc1_27 (by decide +kernel)
theorem dX11_yearGoes_102 : decode cX11_yearGoes 102 = .ok (.iadd, 1) := dc1_96 (by decide +kernel)
theorem dX11_yearGoes_103 : decode cX11_yearGoes 103 = .ok (.bipush (-2), 2) := dcb_16 (n := 254) (by decide +kernel)
theorem dX11_yearGoes_105 : decode cX11_yearGoes 105 = .ok (.iastore, 1) := dc1_79 (by decide +kernel)
theorem dX11_yearGoes_106 : decode cX11_yearGoes 106 = .ok (.aload_n 0, 1) := dc1_42 (by decide +kernel)
theorem dX11_yearGoes_107 : decode cX11_yearGoes 107 = .ok (.getfield 101, 3) := dcw_180 (by decide +kernel)
theorem dX11_yearGoes_110 : decode cX11_yearGoes 110 = .ok (.bipush 10, 2) := dcb_16 (n := 10) (by decide +kernel)
theorem dX11_yearGoes_112 : decode cX11_yearGoes 112 = .ok (.iload_n 1, 1) := dc1_27 (by decide +kernel)
theorem dX11_yearGoes_113 : decode cX11_yearGoes 113 = .ok (.iadd, 1) := dc1_96 (by decide +kernel)
theorem dX11_yearGoes_114 : decode cX11_yearGoes 114 = .ok (.dup2, 1) := dc1_92 (by decide +kernel)
theorem dX11_yearGoes_115 : decode cX11_yearGoes 115 = .ok (.iaload, 1) := dc1_46 (by decide +kernel)
theorem dX11_yearGoes_116 : decode cX11_yearGoes 116 = .ok (.iconst 1, 1) := dc1_4 (by decide +kernel)
theorem dX11_yearGoes_117 : decode cX11_yearGoes 117 = .ok (.iadd, 1) := dc1_96 (by decide +kernel)
theorem dX11_yearGoes_118 : decode cX11_yearGoes 118 = .ok (.iastore, 1) := dc1_79 (by decide +kernel)
theorem dX11_yearGoes_119 : decode cX11_yearGoes 119 = .ok (.iinc 1 1, 3) := dc_iinc (m := 1) (by decide +kernel)
theorem dX11_yearGoes_122 : decode cX11_yearGoes 122 = .ok (.goto (-58), 3) := dcs_167 (n := 65478) (by decide +kernel)
theorem dX11_yearGoes_125 : decode cX11_yearGoes 125 = .ok (.aload_n 0, 1) := dc1_42 (by decide +kernel)
theorem dX11_yearGoes_126 : decode cX11_yearGoes 126 = .ok (.getfield 101, 3) := dcw_180 (by decide +kernel)
theorem dX11_yearGoes_129 : decode cX11_yearGoes 129 = .ok (.bipush 27, 2) := dcb_16 (n := 27) (by decide +kernel)
theorem dX11_yearGoes_131 : decode cX11_yearGoes 131 = .ok (.dup2, 1) := dc1_92 (by decide +kernel)
theorem dX11_yearGoes_132 : decode cX11_yearGoes 132 = .ok (.iaload, 1) := dc1_46 (by decide +kernel)
theorem dX11_yearGoes_133 : decode cX11_yearGoes 133 = .ok (.iconst 1, 1) := dc1_4 (by decide +kernel)
theorem dX11_yearGoes_134 : decode cX11_yearGoes 134 = .ok (.iadd, 1) := dc1_96 (by decide +kernel)
theorem dX11_yearGoes_135 : decode cX11_yearGoes 135 = .ok (.iastore, 1) := dc1_79 (by decide +kernel)
theorem dX11_yearGoes_136 : decode cX11_yearGoes 136 = .ok (.return_, 1) := dc1_177 (by decide +kernel)
theorem LX11_looks_101 : Cond.fieldLink RX11 101 "GuessFerryModel" "row" "[I" ∈ wsX11_looks := by decide +kernel
theorem LX11_looks_215 : Cond.fieldLink RX11 215 "GuessFerryModel" "live" "I" ∈ wsX11_looks := by decide +kernel
theorem LX11_looks_52 : Cond.fieldLink RX11 52 "GuessFerryModel" "heavyOf" "[I" ∈ wsX11_looks := by decide +kernel
theorem LX11_looks_55 : Cond.fieldLink RX11 55 "GuessFerryModel" "nerveOf" "[I" ∈ wsX11_looks := by decide +kernel
theorem LX11_looks_92 : Cond.fieldLink RX11 92 "GuessFerryModel" "variables" "[I" ∈ wsX11_looks := by decide +kernel
theorem inX11_looks_X11 : ∀ w ∈ u_ws RX11 TX11 58, w ∈ wsX11_looks := fun _ h => List.mem_cons_of_mem _ (List.mem_append_right _ h)
set_option maxHeartbeats 4000000 in
set_option maxRecDepth 100000 in
theorem br_looks_2 {l : Launch} {dC : Nat → ClassId} {dI : Nat → Nat → Nat} {cB cI cJ cZ cS : ClassId} {h : Nat} {a : Nat → Nat} {as : List Value} {s' : RS} {k2 : RS → Int32 → Int32 → Option RS} (hk2 : ∀ (s : RS) (x1 : Int32) (x2 : Int32), k2 s x1 x2 = some s' → BlkV l yX11_looks wsX11_looks ({ frames := 0, cells := 0, slots := 0, locals := 0 }) cX11_looks 3 none (dC, dI) (tysA cB cI cJ cZ cS) as 2 (mwS cB cI cJ cZ h a s) [(0, .ref h), (1, .int x1), (2, .int x2)] [] (fun u => u = (mwS cB cI cJ cZ h a s'))) (s : RS) (x1 : Int32) (x2 : Int32) (hB : r_looks_2 k2 s x1 x2 = some s') : BlkV l yX11_looks wsX11_looks ({ frames := 0, cells := 0, slots := 0, locals := 0 }) cX11_looks 3 none (dC, dI) (tysA cB cI cJ cZ cS) as 2 (mwS cB cI cJ cZ h a s) [(0, .ref h), (1, .int x1), (2, .int x2)] [] (fun u => u = (mwS cB cI cJ cZ h a s')) := by
  intro p e s0 m below meth c A E H locs ls hP hD hS hl
  obtain ⟨C, hr, hlocks, hA, hK, hN⟩ := id E
  obtain ⟨hx, hb, hml, hown, hts⟩ := id C
  unfold r_looks_2 at hB
  refine lv_iload_n hx hb dX11_looks_2 rfl (lv_at hl 2 rfl) ?_
  refine lv_bipush (v := 9) hx hb dX11_looks_3 (by decide) ?_
  refine lv_icmp_ge (tgt := 21) hx hb dX11_looks_5 (by decide) (fun c1 => ?_) (fun c1 => ?_)
  · have hB := if_p hB c1
    refine lv_aload_n hx hb dX11_looks_21 rfl (lv_at hl 0 rfl) ?_
    refine q_get (v := .ref (a 40)) C inX11_looks_X11 hK hP 0 rfl rfl 40 (by decide) rfl LX11_looks_92 rfl dX11_looks_22 ?_
    refine lv_iconst (v := 5) hx hb dX11_looks_25 (by decide) ?_
    refine lv_aload_n hx hb dX11_looks_26 rfl (lv_at hl 0 rfl) ?_
    refine q_get (v := .ref (a 44)) C inX11_looks_X11 hK hP 0 rfl rfl 44 (by decide) rfl LX11_looks_101 rfl dX11_looks_27 ?_
    refine lv_bipush (v := 27) hx hb dX11_looks_30 (by decide) ?_
    refine q_iald (x := (s.f 44 27)) C hK hP 28 1 rfl rfl (vp_lit (by decide +kernel)) dX11_looks_32 rfl ?_
    obtain ⟨s2, hs3, hB⟩ := letS_inv hB
    refine q_iast (f2 := (upd (s.f 40) 5 (s.f 44 27))) (w2 := (mwS cB cI cJ cZ h a s2)) C hK hP hD hS 25 1 rfl rfl (vp_lit (by decide +kernel)) dX11_looks_33 rfl (mwS_f40 hs3) (fun H locs hP hD hS => ?_)
    refine lv_iload_n hx hb dX11_looks_34 rfl (lv_at hl 1 rfl) ?_
    refine lv_if_ge (tgt := 39) hx hb dX11_looks_35 (by decide) (fun c4 => ?_) (fun c4 => ?_)
    · have hB := if_p hB c4
      refine lv_aload_n hx hb dX11_looks_39 rfl (lv_at hl 0 rfl) ?_
      refine q_get (v := .ref (a 40)) C inX11_looks_X11 hK hP 0 rfl rfl 40 (by decide) rfl LX11_looks_92 rfl dX11_looks_40 ?_
      refine lv_iconst (v := 2) hx hb dX11_looks_43 (by decide) ?_
      refine lv_aload_n hx hb dX11_looks_44 rfl (lv_at hl 0 rfl) ?_
      refine q_get (v := .ref (a 24)) C inX11_looks_X11 hK hP 0 rfl rfl 24 (by decide) rfl LX11_looks_52 rfl dX11_looks_45 ?_
      refine lv_bipush (v := 6) hx hb dX11_looks_48 (by decide) ?_
      refine lv_aload_n hx hb dX11_looks_50 rfl (lv_at hl 0 rfl) ?_
      refine q_get (v := .int (s2.v 18)) C inX11_looks_X11 hK hP 0 rfl rfl 18 (by decide) rfl LX11_looks_215 rfl dX11_looks_51 ?_
      refine lv_imul hx hb dX11_looks_54 ?_
      refine lv_iload_n hx hb dX11_looks_55 rfl (lv_at hl 1 rfl) ?_
      refine lv_iadd hx hb dX11_looks_56 ?_
      obtain ⟨g5, hB⟩ := guard_inv hB
      refine q_iald (x := (s2.f 24 (Int32.toNatClampNeg ((6 * (s2.v 18)) + x1)))) C hK hP 12 1 rfl rfl (vpb_in g5) dX11_looks_57 rfl ?_
      obtain ⟨s6, hs7, hB⟩ := letS_inv hB
      refine q_iast (f2 := (upd (s2.f 40) 2 (s2.f 24 (Int32.toNatClampNeg ((6 * (s2.v 18)) + x1))))) (w2 := (mwS cB cI cJ cZ h a s6)) C hK hP hD hS 25 1 rfl rfl (vp_lit (by decide +kernel)) dX11_looks_58 rfl (mwS_f40 hs7) (fun H locs hP hD hS => ?_)
      refine lv_aload_n hx hb dX11_looks_59 rfl (lv_at hl 0 rfl) ?_
      refine q_get (v := .ref (a 40)) C inX11_looks_X11 hK hP 0 rfl rfl 40 (by decide) rfl LX11_looks_92 rfl dX11_looks_60 ?_
      refine lv_iconst (v := 3) hx hb dX11_looks_63 (by decide) ?_
      refine lv_aload_n hx hb dX11_looks_64 rfl (lv_at hl 0 rfl) ?_
      refine q_get (v := .ref (a 25)) C inX11_looks_X11 hK hP 0 rfl rfl 25 (by decide) rfl LX11_looks_55 rfl dX11_looks_65 ?_
      refine lv_bipush (v := 6) hx hb dX11_looks_68 (by decide) ?_
      refine lv_aload_n hx hb dX11_looks_70 rfl (lv_at hl 0 rfl) ?_
      refine q_get (v := .int (s6.v 18)) C inX11_looks_X11 hK hP 0 rfl rfl 18 (by decide) rfl LX11_looks_215 rfl dX11_looks_71 ?_
      refine lv_imul hx hb dX11_looks_74 ?_
      refine lv_iload_n hx hb dX11_looks_75 rfl (lv_at hl 1 rfl) ?_
      refine lv_iadd hx hb dX11_looks_76 ?_
      obtain ⟨g8, hB⟩ := guard_inv hB
      refine q_iald (x := (s6.f 25 (Int32.toNatClampNeg ((6 * (s6.v 18)) + x1)))) C hK hP 13 1 rfl rfl (vpb_in g8) dX11_looks_77 rfl ?_
      obtain ⟨s9, hs10, hB⟩ := letS_inv hB
      refine q_iast (f2 := (upd (s6.f 40) 3 (s6.f 25 (Int32.toNatClampNeg ((6 * (s6.v 18)) + x1))))) (w2 := (mwS cB cI cJ cZ h a s9)) C hK hP hD hS 25 1 rfl rfl (vp_lit (by decide +kernel)) dX11_looks_78 rfl (mwS_f40 hs10) (fun H locs hP hD hS => ?_)
      refine lv_aload_n hx hb dX11_looks_79 rfl (lv_at hl 0 rfl) ?_
      refine q_get (v := .ref (a 40)) C inX11_looks_X11 hK hP 0 rfl rfl 40 (by decide) rfl LX11_looks_92 rfl dX11_looks_80 ?_
      refine lv_bipush (v := 6) hx hb dX11_looks_83 (by decide) ?_
      refine lv_iload_n hx hb dX11_looks_85 rfl (lv_at hl 1 rfl) ?_
      obtain ⟨s11, hs12, hB⟩ := letS_inv hB
      refine q_iast (f2 := (upd (s9.f 40) 6 x1)) (w2 := (mwS cB cI cJ cZ h a s11)) C hK hP hD hS 25 1 rfl rfl (vp_lit (by decide +kernel)) dX11_looks_86 rfl (mwS_f40 hs12) (fun H locs hP hD hS => ?_)
      refine lv_aload_n hx hb dX11_looks_87 rfl (lv_at hl 0 rfl) ?_
      refine q_get (v := .ref (a 40)) C inX11_looks_X11 hK hP 0 rfl rfl 40 (by decide) rfl LX11_looks_92 rfl dX11_looks_88 ?_
      refine lv_bipush (v := 8) hx hb dX11_looks_91 (by decide) ?_
      refine lv_aload_n hx hb dX11_looks_93 rfl (lv_at hl 0 rfl) ?_
      refine q_get (v := .ref (a 44)) C inX11_looks_X11 hK hP 0 rfl rfl 44 (by decide) rfl LX11_looks_101 rfl dX11_looks_94 ?_
      refine lv_bipush (v := 21) hx hb dX11_looks_97 (by decide) ?_
      refine lv_iload_n hx hb dX11_looks_99 rfl (lv_at hl 1 rfl) ?_
      refine lv_iadd hx hb dX11_looks_100 ?_
      obtain ⟨g13, hB⟩ := guard_inv hB
      refine q_iald (x := (s11.f 44 (Int32.toNatClampNeg (21 + x1)))) C hK hP 28 1 rfl rfl (vpb_in g13) dX11_looks_101 rfl ?_
      obtain ⟨s14, hs15, hB⟩ := letS_inv hB
      refine q_iast (f2 := (upd (s11.f 40) 8 (s11.f 44 (Int32.toNatClampNeg (21 + x1))))) (w2 := (mwS cB cI cJ cZ h a s14)) C hK hP hD hS 25 1 rfl rfl (vp_lit (by decide +kernel)) dX11_looks_102 rfl (mwS_f40 hs15) (fun H locs hP hD hS => ?_)
      exact q_vret C hr hlocks hK hP hD hS (Nat.le_of_ble_eq_true rfl) (Nat.le_of_ble_eq_true rfl) dX11_looks_103 (by cases hB; rfl)
    · have hB := if_n hB c4
      exact q_vret C hr hlocks hK hP hD hS (Nat.le_of_ble_eq_true rfl) (Nat.le_of_ble_eq_true rfl) dX11_looks_38 (by cases hB; rfl)
  · have hB := if_n hB c1
    refine lv_aload_n hx hb dX11_looks_8 rfl (lv_at hl 0 rfl) ?_
    refine q_get (v := .ref (a 40)) C inX11_looks_X11 hK hP 0 rfl rfl 40 (by decide) rfl LX11_looks_92 rfl dX11_looks_9 ?_
    refine lv_iload_n hx hb dX11_looks_12 rfl (lv_at hl 2 rfl) ?_
    refine lv_iconst (v := 0) hx hb dX11_looks_13 (by decide) ?_
    obtain ⟨g16, hB⟩ := guard_inv hB
    obtain ⟨s17, hs18, hB⟩ := letS_inv hB
    refine q_iast (f2 := (upd (s.f 40) (Int32.toNatClampNeg x2) 0)) (w2 := (mwS cB cI cJ cZ h a s17)) C hK hP hD hS 25 1 rfl rfl (vpb_in g16) dX11_looks_14 rfl (mwS_f40 hs18) (fun H locs hP hD hS => ?_)
    refine lv_iinc (v := (x2 + 1)) (lv' := [(2, .int (x2 + 1)), (0, .ref h), (1, .int x1)]) hx hb dX11_looks_15 hl (k := 2) rfl (rfl) (by decide) rfl (fun ls hl => ?_)
    refine lv_goto (tgt := 2) hx hb dX11_looks_18 (by decide) ?_
    exact hk2 _ _ _ hB p e s0 m below meth c A E H locs ls hP hD hS (lv_sub hl [1, 2, 0] rfl)
theorem br_looks_2L {l : Launch} {dC : Nat → ClassId} {dI : Nat → Nat → Nat} {cB cI cJ cZ cS : ClassId} {h : Nat} {a : Nat → Nat} {as : List Value} {s' : RS} : ∀ (n : Nat) (s : RS) (x1 : Int32) (x2 : Int32), r_looks_2L n s x1 x2 = some s' → BlkV l yX11_looks wsX11_looks ({ frames := 0, cells := 0, slots := 0, locals := 0 }) cX11_looks 3 none (dC, dI) (tysA cB cI cJ cZ cS) as 2 (mwS cB cI cJ cZ h a s) [(0, .ref h), (1, .int x1), (2, .int x2)] [] (fun u => u = (mwS cB cI cJ cZ h a s')) := by
  intro n
  induction n with
  | zero => intro s x1 x2 hB; exact none_ne hB
  | succ n ih => intro s x1 x2 hB; exact br_looks_2 ih _ _ _ hB
set_option maxHeartbeats 4000000 in
set_option maxRecDepth 100000 in
theorem br_looks {l : Launch} {dC : Nat → ClassId} {dI : Nat → Nat → Nat} {cB cI cJ cZ cS : ClassId} {h : Nat} {a : Nat → Nat} {as : List Value} {s' : RS} (s : RS) (x1 : Int32) (hB : r_looks s x1 = some s') : BlkV l yX11_looks wsX11_looks ({ frames := 0, cells := 0, slots := 0, locals := 0 }) cX11_looks 3 none (dC, dI) (tysA cB cI cJ cZ cS) as 0 (mwS cB cI cJ cZ h a s) [(0, .ref h), (1, .int x1)] [] (fun u => u = (mwS cB cI cJ cZ h a s')) := by
  intro p e s0 m below meth c A E H locs ls hP hD hS hl
  obtain ⟨C, hr, hlocks, hA, hK, hN⟩ := id E
  obtain ⟨hx, hb, hml, hown, hts⟩ := id C
  unfold r_looks at hB
  refine lv_iconst (v := 0) hx hb dX11_looks_0 (by decide) ?_
  refine lv_istore_n (lv' := [(2, .int 0), (0, .ref h), (1, .int x1)]) hx hb dX11_looks_1 rfl hl (by decide) rfl (fun ls hl => ?_)
  exact br_looks_2L fu _ _ _ hB p e s0 m below meth c A E H locs ls hP hD hS (lv_sub hl [1, 2, 0] rfl)
theorem cr_looks {l : Launch} {dC : Nat → ClassId} {dI : Nat → Nat → Nat} {cB cI cJ cZ cS : ClassId} {h : Nat} {a : Nat → Nat} {s' : RS} {s : RS} {x1 : Int32} (hB : r_looks s x1 = some s') : CV l yX11_looks wsX11_looks ({ frames := 0, cells := 0, slots := 0, locals := 0 }) (dC, dI) (tysA cB cI cJ cZ cS) (mwS cB cI cJ cZ h a s) [.ref h, .int x1] (fun u => u = (mwS cB cI cJ cZ h a s')) :=
  CV_of (cc := cX11_looks) (maxL := 3) (ret := none) (by decide) rfl (Nat.le_of_ble_eq_true rfl) (br_looks _ _ hB)
theorem LX11_looksOver_101 : Cond.fieldLink RX11 101 "GuessFerryModel" "row" "[I" ∈ wsX11_looksOver := by decide +kernel
theorem LX11_looksOver_92 : Cond.fieldLink RX11 92 "GuessFerryModel" "variables" "[I" ∈ wsX11_looksOver := by decide +kernel
theorem inX11_looksOver_X11 : ∀ w ∈ u_ws RX11 TX11 58, w ∈ wsX11_looksOver := by decide +kernel
set_option maxHeartbeats 4000000 in
set_option maxRecDepth 100000 in
theorem br_looksOver {l : Launch} {dC : Nat → ClassId} {dI : Nat → Nat → Nat} {cB cI cJ cZ cS : ClassId} {h : Nat} {a : Nat → Nat} {as : List Value} {s' : RS} (s : RS) (x1 : Int32) (hB : r_looksOver s x1 = some s') : BlkV l yX11_looksOver wsX11_looksOver ({ frames := 2, cells := 0, slots := 0, locals := 45 }) cX11_looksOver 2 none (dC, dI) (tysA cB cI cJ cZ cS) as 0 (mwS cB cI cJ cZ h a s) [(0, .ref h), (1, .int x1)] [] (fun u => u = (mwS cB cI cJ cZ h a s')) := by
  intro p e s0 m below meth c A E H locs ls hP hD hS hl
  obtain ⟨C, hr, hlocks, hA, hK, hN⟩ := id E
  obtain ⟨hx, hb, hml, hown, hts⟩ := id C
  unfold r_looksOver at hB
  refine lv_aload_n hx hb dX11_looksOver_0 rfl (lv_at hl 0 rfl) ?_
  refine q_get (v := .ref (a 40)) C inX11_looksOver_X11 hK hP 0 rfl rfl 40 (by decide) rfl LX11_looksOver_92 rfl dX11_looksOver_1 ?_
  refine lv_iconst (v := 0) hx hb dX11_looksOver_4 (by decide) ?_
  refine lv_iload_n hx hb dX11_looksOver_5 rfl (lv_at hl 1 rfl) ?_
  obtain ⟨s1, hs2, hB⟩ := letS_inv hB
  refine q_iast (f2 := (upd (s.f 40) 0 x1)) (w2 := (mwS cB cI cJ cZ h a s1)) C hK hP hD hS 25 1 rfl rfl (vp_lit (by decide +kernel)) dX11_looksOver_6 rfl (mwS_f40 hs2) (fun H locs hP hD hS => ?_)
  refine lv_aload_n hx hb dX11_looksOver_7 rfl (lv_at hl 0 rfl) ?_
  refine q_get (v := .ref (a 40)) C inX11_looksOver_X11 hK hP 0 rfl rfl 40 (by decide) rfl LX11_looksOver_92 rfl dX11_looksOver_8 ?_
  refine lv_iconst (v := 4) hx hb dX11_looksOver_11 (by decide) ?_
  refine lv_aload_n hx hb dX11_looksOver_12 rfl (lv_at hl 0 rfl) ?_
  refine lv_iload_n hx hb dX11_looksOver_13 rfl (lv_at hl 1 rfl) ?_
  obtain ⟨q_, s3, hc, hB⟩ := bindI_inv hB
  refine q_goiF (va_runV (As := [.int x1]) (rest := [.int 4, .ref (a 40)]) C (cr_mayAt hc _) (cwV 1 hts gX11_looksOver_X11_mayAt rfl rfl rfl (by decide +kernel) ⟨Nat.le_of_ble_eq_true rfl, Nat.le_of_ble_eq_true rfl⟩) (q_preV hK hP (ci := 11) (q0 := 0) rfl rfl rfl (q_preF hN hK hP hD)) rfl rfl hl.1 rfl (lv_room (Nat.le_of_ble_eq_true rfl)) dX11_looksOver_14 ⟨Nat.le_of_ble_eq_true rfl, Nat.le_of_ble_eq_true rfl⟩) hD hS hA (fun r4 w1 H locs hw hP hD hS => ?_)
  obtain ⟨hq_, hw⟩ := hw; subst hw; subst hq_
  obtain ⟨q_, hc, hB⟩ := bindP_inv hB
  refine q_goi0 (va_runS (As := [.int r4]) (rest := [.int 4, .ref (a 40)]) C (cr_bits hc _) (va_cwS 1 hts gX11_looksOver_X11_bits rfl rfl rfl (by decide +kernel) ⟨Nat.le_of_ble_eq_true rfl, Nat.le_of_ble_eq_true rfl⟩) (q_pre0 hN hK) rfl rfl hl.1 rfl (lv_room (Nat.le_of_ble_eq_true rfl)) dX11_looksOver_17 ⟨Nat.le_of_ble_eq_true rfl, Nat.le_of_ble_eq_true rfl⟩) hP hD hS hA (fun r5 w1 H locs hw hP hS => ?_)
  subst hw
  obtain ⟨s6, hs7, hB⟩ := letS_inv hB
  refine q_iast (f2 := (upd (s3.f 40) 4 r5)) (w2 := (mwS cB cI cJ cZ h a s6)) C hK hP hD hS 25 1 rfl rfl (vp_lit (by decide +kernel)) dX11_looksOver_20 rfl (mwS_f40 hs7) (fun H locs hP hD hS => ?_)
  refine lv_aload_n hx hb dX11_looksOver_21 rfl (lv_at hl 0 rfl) ?_
  refine q_get (v := .ref (a 40)) C inX11_looksOver_X11 hK hP 0 rfl rfl 40 (by decide) rfl LX11_looksOver_92 rfl dX11_looksOver_22 ?_
  refine lv_bipush (v := 7) hx hb dX11_looksOver_25 (by decide) ?_
  refine lv_aload_n hx hb dX11_looksOver_27 rfl (lv_at hl 0 rfl) ?_
  refine q_get (v := .ref (a 44)) C inX11_looksOver_X11 hK hP 0 rfl rfl 44 (by decide) rfl LX11_looksOver_101 rfl dX11_looksOver_28 ?_
  refine lv_iload_n hx hb dX11_looksOver_31 rfl (lv_at hl 1 rfl) ?_
  obtain ⟨g8, hB⟩ := guard_inv hB
  refine q_iald (x := (s6.f 44 (Int32.toNatClampNeg x1))) C hK hP 28 1 rfl rfl (vpb_in g8) dX11_looksOver_32 rfl ?_
  obtain ⟨q_, hc, hB⟩ := bindP_inv hB
  refine q_goi0 (va_runS (As := [.int (s6.f 44 (Int32.toNatClampNeg x1))]) (rest := [.int 7, .ref (a 40)]) C (cr_bits hc _) (va_cwS 1 hts gX11_looksOver_X11_bits rfl rfl rfl (by decide +kernel) ⟨Nat.le_of_ble_eq_true rfl, Nat.le_of_ble_eq_true rfl⟩) (q_pre0 hN hK) rfl rfl hl.1 rfl (lv_room (Nat.le_of_ble_eq_true rfl)) dX11_looksOver_33 ⟨Nat.le_of_ble_eq_true rfl, Nat.le_of_ble_eq_true rfl⟩) hP hD hS hA (fun r9 w1 H locs hw hP hS => ?_)
  subst hw
  obtain ⟨s10, hs11, hB⟩ := letS_inv hB
  refine q_iast (f2 := (upd (s6.f 40) 7 r9)) (w2 := (mwS cB cI cJ cZ h a s10)) C hK hP hD hS 25 1 rfl rfl (vp_lit (by decide +kernel)) dX11_looksOver_36 rfl (mwS_f40 hs11) (fun H locs hP hD hS => ?_)
  exact q_vret C hr hlocks hK hP hD hS (Nat.le_of_ble_eq_true rfl) (Nat.le_of_ble_eq_true rfl) dX11_looksOver_37 (by cases hB; rfl)
theorem cr_looksOver {l : Launch} {dC : Nat → ClassId} {dI : Nat → Nat → Nat} {cB cI cJ cZ cS : ClassId} {h : Nat} {a : Nat → Nat} {s' : RS} {s : RS} {x1 : Int32} (hB : r_looksOver s x1 = some s') : CV l yX11_looksOver wsX11_looksOver ({ frames := 2, cells := 0, slots := 0, locals := 45 }) (dC, dI) (tysA cB cI cJ cZ cS) (mwS cB cI cJ cZ h a s) [.ref h, .int x1] (fun u => u = (mwS cB cI cJ cZ h a s')) :=
  CV_of (cc := cX11_looksOver) (maxL := 2) (ret := none) (by decide) rfl (Nat.le_of_ble_eq_true rfl) (br_looksOver _ _ hB)
theorem LX11_needsOf_92 : Cond.fieldLink RX11 92 "GuessFerryModel" "variables" "[I" ∈ wsX11_needsOf := by decide +kernel
theorem inX11_needsOf_X11 : ∀ w ∈ u_ws RX11 TX11 58, w ∈ wsX11_needsOf := by decide +kernel
set_option maxHeartbeats 4000000 in
set_option maxRecDepth 100000 in
theorem br_needsOf {l : Launch} {dC : Nat → ClassId} {dI : Nat → Nat → Nat} {cB cI cJ cZ cS : ClassId} {h : Nat} {a : Nat → Nat} {as : List Value} {r : Int32} {s' : RS} (s : RS) (x1 : Int32) (x2 : Int32) (x3 : Int32) (hB : r_needsOf s x1 x2 x3 = some (r, s')) : BlkI l yX11_needsOf wsX11_needsOf ({ frames := 3, cells := 0, slots := 0, locals := 66 }) cX11_needsOf 4 (some .int) (dC, dI) (tysA cB cI cJ cZ cS) as 0 (mwS cB cI cJ cZ h a s) [(0, .ref h), (1, .int x1), (2, .int x2), (3, .int x3)] [] (fun x u => x = r ∧ u = (mwS cB cI cJ cZ h a s')) := by
  intro p e s0 m below meth c A E H locs ls hP hD hS hl
  obtain ⟨C, hr, hlocks, hA, hK, hN⟩ := id E
  obtain ⟨hx, hb, hml, hown, hts⟩ := id C
  unfold r_needsOf at hB
  refine lv_aload_n hx hb dX11_needsOf_0 rfl (lv_at hl 0 rfl) ?_
  refine lv_iload_n hx hb dX11_needsOf_1 rfl (lv_at hl 1 rfl) ?_
  obtain ⟨s1, hc, hB⟩ := bindP_inv hB
  refine q_govF (va_runV (As := [.int x1]) (rest := []) C (cr_looks hc _) (cwV 1 hts gX11_needsOf_X11_looks rfl rfl rfl (by decide +kernel) ⟨Nat.le_of_ble_eq_true rfl, Nat.le_of_ble_eq_true rfl⟩) (q_preV hK hP (ci := 11) (q0 := 0) rfl rfl rfl (q_preF hN hK hP hD)) rfl rfl hl.1 rfl (lv_room (Nat.le_of_ble_eq_true rfl)) dX11_needsOf_2 ⟨Nat.le_of_ble_eq_true rfl, Nat.le_of_ble_eq_true rfl⟩) hD hS hA (fun w1 H locs hw hP hD hS => ?_)
  subst hw
  refine lv_aload_n hx hb dX11_needsOf_5 rfl (lv_at hl 0 rfl) ?_
  refine lv_iload_n hx hb dX11_needsOf_6 rfl (lv_at hl 2 rfl) ?_
  obtain ⟨s2, hc, hB⟩ := bindP_inv hB
  refine q_govF (va_runV (As := [.int x2]) (rest := []) C (cr_looksOver hc _) (cwV 1 hts gX11_needsOf_X11_looksOver rfl rfl rfl (by decide +kernel) ⟨Nat.le_of_ble_eq_true rfl, Nat.le_of_ble_eq_true rfl⟩) (q_preV hK hP (ci := 11) (q0 := 0) rfl rfl rfl (q_preF hN hK hP hD)) rfl rfl hl.1 rfl (lv_room (Nat.le_of_ble_eq_true rfl)) dX11_needsOf_7 ⟨Nat.le_of_ble_eq_true rfl, Nat.le_of_ble_eq_true rfl⟩) hD hS hA (fun w1 H locs hw hP hD hS => ?_)
  subst hw
  refine lv_aload_n hx hb dX11_needsOf_10 rfl (lv_at hl 0 rfl) ?_
  refine q_get (v := .ref (a 40)) C inX11_needsOf_X11 hK hP 0 rfl rfl 40 (by decide) rfl LX11_needsOf_92 rfl dX11_needsOf_11 ?_
  refine lv_iconst (v := 1) hx hb dX11_needsOf_14 (by decide) ?_
  refine lv_aload_n hx hb dX11_needsOf_15 rfl (lv_at hl 0 rfl) ?_
  refine lv_iload_n hx hb dX11_needsOf_16 rfl (lv_at hl 2 rfl) ?_
  refine lv_iload_n hx hb dX11_needsOf_17 rfl (lv_at hl 3 rfl) ?_
  obtain ⟨q_, s3, hc, hB⟩ := bindI_inv hB
  refine q_goiF (va_runV (As := [.int x2, .int x3]) (rest := [.int 1, .ref (a 40)]) C (cr_oddsAt hc _) (cwV 2 hts gX11_needsOf_X11_oddsAt rfl rfl rfl (by decide +kernel) ⟨Nat.le_of_ble_eq_true rfl, Nat.le_of_ble_eq_true rfl⟩) (q_preV hK hP (ci := 11) (q0 := 0) rfl rfl rfl (q_preF hN hK hP hD)) rfl rfl hl.1 rfl (lv_room (Nat.le_of_ble_eq_true rfl)) dX11_needsOf_18 ⟨Nat.le_of_ble_eq_true rfl, Nat.le_of_ble_eq_true rfl⟩) hD hS hA (fun r4 w1 H locs hw hP hD hS => ?_)
  obtain ⟨hq_, hw⟩ := hw; subst hw; subst hq_
  obtain ⟨s5, hs6, hB⟩ := letS_inv hB
  refine q_iast (f2 := (upd (s3.f 40) 1 r4)) (w2 := (mwS cB cI cJ cZ h a s5)) C hK hP hD hS 25 1 rfl rfl (vp_lit (by decide +kernel)) dX11_needsOf_21 rfl (mwS_f40 hs6) (fun H locs hP hD hS => ?_)
  refine lv_aload_n hx hb dX11_needsOf_22 rfl (lv_at hl 0 rfl) ?_
  refine lv_iconst (v := 0) hx hb dX11_needsOf_23 (by decide) ?_
  refine lv_aload_n hx hb dX11_needsOf_24 rfl (lv_at hl 0 rfl) ?_
  refine q_get (v := .ref (a 40)) C inX11_needsOf_X11 hK hP 0 rfl rfl 40 (by decide) rfl LX11_needsOf_92 rfl dX11_needsOf_25 ?_
  refine lv_iconst (v := 2) hx hb dX11_needsOf_28 (by decide) ?_
  refine q_iald (x := (s5.f 40 2)) C hK hP 25 1 rfl rfl (vp_lit (by decide +kernel)) dX11_needsOf_29 rfl ?_
  obtain ⟨q_, s7, hc, hB⟩ := bindI_inv hB
  refine q_goiF (va_runV (As := [.int 0, .int (s5.f 40 2)]) (rest := []) C (cr_lawTells hc _) (cwV 2 hts gX11_needsOf_X11_lawTells rfl rfl rfl (by decide +kernel) ⟨Nat.le_of_ble_eq_true rfl, Nat.le_of_ble_eq_true rfl⟩) (q_preV hK hP (ci := 11) (q0 := 0) rfl rfl rfl (q_preF hN hK hP hD)) rfl rfl hl.1 rfl (lv_room (Nat.le_of_ble_eq_true rfl)) dX11_needsOf_30 ⟨Nat.le_of_ble_eq_true rfl, Nat.le_of_ble_eq_true rfl⟩) hD hS hA (fun r8 w1 H locs hw hP hD hS => ?_)
  obtain ⟨hq_, hw⟩ := hw; subst hw; subst hq_
  refine lv_iconst (v := 0) hx hb dX11_needsOf_33 (by decide) ?_
  refine lv_bipush (v := 9) hx hb dX11_needsOf_34 (by decide) ?_
  obtain ⟨q_, hc, hB⟩ := bindP_inv hB
  refine q_goi0 (va_runS (As := [.int r8, .int 0, .int 9]) (rest := []) C (cr_within hc _) (va_cwS 3 hts gX11_needsOf_X11_within rfl rfl rfl (by decide +kernel) ⟨Nat.le_of_ble_eq_true rfl, Nat.le_of_ble_eq_true rfl⟩) (q_pre0 hN hK) rfl rfl hl.1 rfl (lv_room (Nat.le_of_ble_eq_true rfl)) dX11_needsOf_36 ⟨Nat.le_of_ble_eq_true rfl, Nat.le_of_ble_eq_true rfl⟩) hP hD hS hA (fun r9 w1 H locs hw hP hS => ?_)
  subst hw
  exact q_iret C hr hlocks hK hP hD hS (Nat.le_of_ble_eq_true rfl) (Nat.le_of_ble_eq_true rfl) dX11_needsOf_39 (by cases hB; exact ⟨rfl, rfl⟩)
theorem cr_needsOf {l : Launch} {dC : Nat → ClassId} {dI : Nat → Nat → Nat} {cB cI cJ cZ cS : ClassId} {h : Nat} {a : Nat → Nat} {r : Int32} {s' : RS} {s : RS} {x1 : Int32} {x2 : Int32} {x3 : Int32} (hB : r_needsOf s x1 x2 x3 = some (r, s')) : CI l yX11_needsOf wsX11_needsOf ({ frames := 3, cells := 0, slots := 0, locals := 66 }) (dC, dI) (tysA cB cI cJ cZ cS) (mwS cB cI cJ cZ h a s) [.ref h, .int x1, .int x2, .int x3] (fun x u => x = r ∧ u = (mwS cB cI cJ cZ h a s')) :=
  CI_of (cc := cX11_needsOf) (maxL := 4) (ret := (some .int)) (by decide) rfl (Nat.le_of_ble_eq_true rfl) (br_needsOf _ _ _ _ hB)
set_option maxHeartbeats 4000000 in
set_option maxRecDepth 100000 in
theorem br_faresOf {l : Launch} {dC : Nat → ClassId} {dI : Nat → Nat → Nat} {cB cI cJ cZ cS : ClassId} {h : Nat} {a : Nat → Nat} {as : List Value} {r : Int32} {s' : RS} (s : RS) (x1 : Int32) (hB : r_faresOf s x1 = some (r, s')) : BlkI l yX11_faresOf wsX11_faresOf ({ frames := 2, cells := 0, slots := 0, locals := 53 }) cX11_faresOf 2 (some .int) (dC, dI) (tysA cB cI cJ cZ cS) as 0 (mwS cB cI cJ cZ h a s) [(0, .ref h), (1, .int x1)] [] (fun x u => x = r ∧ u = (mwS cB cI cJ cZ h a s')) := by
  intro p e s0 m below meth c A E H locs ls hP hD hS hl
  obtain ⟨C, hr, hlocks, hA, hK, hN⟩ := id E
  obtain ⟨hx, hb, hml, hown, hts⟩ := id C
  unfold r_faresOf at hB
  refine lv_aload_n hx hb dX11_faresOf_0 rfl (lv_at hl 0 rfl) ?_
  refine lv_iload_n hx hb dX11_faresOf_1 rfl (lv_at hl 1 rfl) ?_
  obtain ⟨s1, hc, hB⟩ := bindP_inv hB
  refine q_govF (va_runV (As := [.int x1]) (rest := []) C (cr_looks hc _) (cwV 1 hts gX11_faresOf_X11_looks rfl rfl rfl (by decide +kernel) ⟨Nat.le_of_ble_eq_true rfl, Nat.le_of_ble_eq_true rfl⟩) (q_preV hK hP (ci := 11) (q0 := 0) rfl rfl rfl (q_preF hN hK hP hD)) rfl rfl hl.1 rfl (lv_room (Nat.le_of_ble_eq_true rfl)) dX11_faresOf_2 ⟨Nat.le_of_ble_eq_true rfl, Nat.le_of_ble_eq_true rfl⟩) hD hS hA (fun w1 H locs hw hP hD hS => ?_)
  subst hw
  refine lv_aload_n hx hb dX11_faresOf_5 rfl (lv_at hl 0 rfl) ?_
  refine lv_iconst (v := 1) hx hb dX11_faresOf_6 (by decide) ?_
  refine lv_iconst (v := 1) hx hb dX11_faresOf_7 (by decide) ?_
  obtain ⟨q_, s2, hc, hB⟩ := bindI_inv hB
  refine q_goiF (va_runV (As := [.int 1, .int 1]) (rest := []) C (cr_lawTells hc _) (cwV 2 hts gX11_faresOf_X11_lawTells rfl rfl rfl (by decide +kernel) ⟨Nat.le_of_ble_eq_true rfl, Nat.le_of_ble_eq_true rfl⟩) (q_preV hK hP (ci := 11) (q0 := 0) rfl rfl rfl (q_preF hN hK hP hD)) rfl rfl hl.1 rfl (lv_room (Nat.le_of_ble_eq_true rfl)) dX11_faresOf_8 ⟨Nat.le_of_ble_eq_true rfl, Nat.le_of_ble_eq_true rfl⟩) hD hS hA (fun r3 w1 H locs hw hP hD hS => ?_)
  obtain ⟨hq_, hw⟩ := hw; subst hw; subst hq_
  refine lv_iconst (v := 0) hx hb dX11_faresOf_11 (by decide) ?_
  refine lv_bipush (v := 99) hx hb dX11_faresOf_12 (by decide) ?_
  obtain ⟨q_, hc, hB⟩ := bindP_inv hB
  refine q_goi0 (va_runS (As := [.int r3, .int 0, .int 99]) (rest := []) C (cr_within hc _) (va_cwS 3 hts gX11_faresOf_X11_within rfl rfl rfl (by decide +kernel) ⟨Nat.le_of_ble_eq_true rfl, Nat.le_of_ble_eq_true rfl⟩) (q_pre0 hN hK) rfl rfl hl.1 rfl (lv_room (Nat.le_of_ble_eq_true rfl)) dX11_faresOf_14 ⟨Nat.le_of_ble_eq_true rfl, Nat.le_of_ble_eq_true rfl⟩) hP hD hS hA (fun r4 w1 H locs hw hP hS => ?_)
  subst hw
  exact q_iret C hr hlocks hK hP hD hS (Nat.le_of_ble_eq_true rfl) (Nat.le_of_ble_eq_true rfl) dX11_faresOf_17 (by cases hB; exact ⟨rfl, rfl⟩)
theorem cr_faresOf {l : Launch} {dC : Nat → ClassId} {dI : Nat → Nat → Nat} {cB cI cJ cZ cS : ClassId} {h : Nat} {a : Nat → Nat} {r : Int32} {s' : RS} {s : RS} {x1 : Int32} (hB : r_faresOf s x1 = some (r, s')) : CI l yX11_faresOf wsX11_faresOf ({ frames := 2, cells := 0, slots := 0, locals := 53 }) (dC, dI) (tysA cB cI cJ cZ cS) (mwS cB cI cJ cZ h a s) [.ref h, .int x1] (fun x u => x = r ∧ u = (mwS cB cI cJ cZ h a s')) :=
  CI_of (cc := cX11_faresOf) (maxL := 2) (ret := (some .int)) (by decide) rfl (Nat.le_of_ble_eq_true rfl) (br_faresOf _ _ hB)
set_option maxHeartbeats 4000000 in
set_option maxRecDepth 100000 in
theorem br_doesDare {l : Launch} {dC : Nat → ClassId} {dI : Nat → Nat → Nat} {cB cI cJ cZ cS : ClassId} {h : Nat} {a : Nat → Nat} {as : List Value} {r : Int32} {s' : RS} (s : RS) (x1 : Int32) (hB : r_doesDare s x1 = some (r, s')) : BlkI l yX11_doesDare wsX11_doesDare ({ frames := 2, cells := 0, slots := 0, locals := 53 }) cX11_doesDare 2 (some .boolean) (dC, dI) (tysA cB cI cJ cZ cS) as 0 (mwS cB cI cJ cZ h a s) [(0, .ref h), (1, .int x1)] [] (fun x u => x = r ∧ u = (mwS cB cI cJ cZ h a s')) := by
  intro p e s0 m below meth c A E H locs ls hP hD hS hl
  obtain ⟨C, hr, hlocks, hA, hK, hN⟩ := id E
  obtain ⟨hx, hb, hml, hown, hts⟩ := id C
  unfold r_doesDare at hB
  refine lv_aload_n hx hb dX11_doesDare_0 rfl (lv_at hl 0 rfl) ?_
  refine lv_iload_n hx hb dX11_doesDare_1 rfl (lv_at hl 1 rfl) ?_
  obtain ⟨s1, hc, hB⟩ := bindP_inv hB
  refine q_govF (va_runV (As := [.int x1]) (rest := []) C (cr_looks hc _) (cwV 1 hts gX11_doesDare_X11_looks rfl rfl rfl (by decide +kernel) ⟨Nat.le_of_ble_eq_true rfl, Nat.le_of_ble_eq_true rfl⟩) (q_preV hK hP (ci := 11) (q0 := 0) rfl rfl rfl (q_preF hN hK hP hD)) rfl rfl hl.1 rfl (lv_room (Nat.le_of_ble_eq_true rfl)) dX11_doesDare_2 ⟨Nat.le_of_ble_eq_true rfl, Nat.le_of_ble_eq_true rfl⟩) hD hS hA (fun w1 H locs hw hP hD hS => ?_)
  subst hw
  refine lv_aload_n hx hb dX11_doesDare_5 rfl (lv_at hl 0 rfl) ?_
  refine lv_iconst (v := 2) hx hb dX11_doesDare_6 (by decide) ?_
  refine lv_iconst (v := 1) hx hb dX11_doesDare_7 (by decide) ?_
  obtain ⟨q_, s2, hc, hB⟩ := bindI_inv hB
  refine q_goiF (va_runV (As := [.int 2, .int 1]) (rest := []) C (cr_lawTells hc _) (cwV 2 hts gX11_doesDare_X11_lawTells rfl rfl rfl (by decide +kernel) ⟨Nat.le_of_ble_eq_true rfl, Nat.le_of_ble_eq_true rfl⟩) (q_preV hK hP (ci := 11) (q0 := 0) rfl rfl rfl (q_preF hN hK hP hD)) rfl rfl hl.1 rfl (lv_room (Nat.le_of_ble_eq_true rfl)) dX11_doesDare_8 ⟨Nat.le_of_ble_eq_true rfl, Nat.le_of_ble_eq_true rfl⟩) hD hS hA (fun r3 w1 H locs hw hP hD hS => ?_)
  obtain ⟨hq_, hw⟩ := hw; subst hw; subst hq_
  refine lv_if_le (tgt := 18) hx hb dX11_doesDare_11 (by decide) (fun c4 => ?_) (fun c4 => ?_)
  · have hB := if_p hB c4
    refine lv_iconst (v := 0) hx hb dX11_doesDare_18 (by decide) ?_
    exact q_zret C hr hlocks (Or.inl rfl) hK hP hD hS (Nat.le_of_ble_eq_true rfl) (Nat.le_of_ble_eq_true rfl) dX11_doesDare_19 (by cases hB; exact ⟨rfl, rfl⟩)
  · have hB := if_n hB c4
    refine lv_iconst (v := 1) hx hb dX11_doesDare_14 (by decide) ?_
    refine lv_goto (tgt := 19) hx hb dX11_doesDare_15 (by decide) ?_
    exact q_zret C hr hlocks (Or.inr rfl) hK hP hD hS (Nat.le_of_ble_eq_true rfl) (Nat.le_of_ble_eq_true rfl) dX11_doesDare_19 (by cases hB; exact ⟨rfl, rfl⟩)
theorem cr_doesDare {l : Launch} {dC : Nat → ClassId} {dI : Nat → Nat → Nat} {cB cI cJ cZ cS : ClassId} {h : Nat} {a : Nat → Nat} {r : Int32} {s' : RS} {s : RS} {x1 : Int32} (hB : r_doesDare s x1 = some (r, s')) : CI l yX11_doesDare wsX11_doesDare ({ frames := 2, cells := 0, slots := 0, locals := 53 }) (dC, dI) (tysA cB cI cJ cZ cS) (mwS cB cI cJ cZ h a s) [.ref h, .int x1] (fun x u => x = r ∧ u = (mwS cB cI cJ cZ h a s')) :=
  CI_of (cc := cX11_doesDare) (maxL := 2) (ret := (some .boolean)) (by decide) rfl (Nat.le_of_ble_eq_true rfl) (br_doesDare _ _ hB)
set_option maxHeartbeats 4000000 in
set_option maxRecDepth 100000 in
theorem br_shiftsOf {l : Launch} {dC : Nat → ClassId} {dI : Nat → Nat → Nat} {cB cI cJ cZ cS : ClassId} {h : Nat} {a : Nat → Nat} {as : List Value} {r : Int32} {s' : RS} (s : RS) (x1 : Int32) (hB : r_shiftsOf s x1 = some (r, s')) : BlkI l yX11_shiftsOf wsX11_shiftsOf ({ frames := 3, cells := 0, slots := 0, locals := 66 }) cX11_shiftsOf 2 (some .int) (dC, dI) (tysA cB cI cJ cZ cS) as 0 (mwS cB cI cJ cZ h a s) [(0, .ref h), (1, .int x1)] [] (fun x u => x = r ∧ u = (mwS cB cI cJ cZ h a s')) := by
  intro p e s0 m below meth c A E H locs ls hP hD hS hl
  obtain ⟨C, hr, hlocks, hA, hK, hN⟩ := id E
  obtain ⟨hx, hb, hml, hown, hts⟩ := id C
  unfold r_shiftsOf at hB
  refine lv_aload_n hx hb dX11_shiftsOf_0 rfl (lv_at hl 0 rfl) ?_
  refine lv_iconst (v := (-1)) hx hb dX11_shiftsOf_1 (by decide) ?_
  obtain ⟨s1, hc, hB⟩ := bindP_inv hB
  refine q_govF (va_runV (As := [.int (-1)]) (rest := []) C (cr_looks hc _) (cwV 1 hts gX11_shiftsOf_X11_looks rfl rfl rfl (by decide +kernel) ⟨Nat.le_of_ble_eq_true rfl, Nat.le_of_ble_eq_true rfl⟩) (q_preV hK hP (ci := 11) (q0 := 0) rfl rfl rfl (q_preF hN hK hP hD)) rfl rfl hl.1 rfl (lv_room (Nat.le_of_ble_eq_true rfl)) dX11_shiftsOf_2 ⟨Nat.le_of_ble_eq_true rfl, Nat.le_of_ble_eq_true rfl⟩) hD hS hA (fun w1 H locs hw hP hD hS => ?_)
  subst hw
  refine lv_aload_n hx hb dX11_shiftsOf_5 rfl (lv_at hl 0 rfl) ?_
  refine lv_iload_n hx hb dX11_shiftsOf_6 rfl (lv_at hl 1 rfl) ?_
  obtain ⟨s2, hc, hB⟩ := bindP_inv hB
  refine q_govF (va_runV (As := [.int x1]) (rest := []) C (cr_looksOver hc _) (cwV 1 hts gX11_shiftsOf_X11_looksOver rfl rfl rfl (by decide +kernel) ⟨Nat.le_of_ble_eq_true rfl, Nat.le_of_ble_eq_true rfl⟩) (q_preV hK hP (ci := 11) (q0 := 0) rfl rfl rfl (q_preF hN hK hP hD)) rfl rfl hl.1 rfl (lv_room (Nat.le_of_ble_eq_true rfl)) dX11_shiftsOf_7 ⟨Nat.le_of_ble_eq_true rfl, Nat.le_of_ble_eq_true rfl⟩) hD hS hA (fun w1 H locs hw hP hD hS => ?_)
  subst hw
  refine lv_aload_n hx hb dX11_shiftsOf_10 rfl (lv_at hl 0 rfl) ?_
  refine lv_iconst (v := 3) hx hb dX11_shiftsOf_11 (by decide) ?_
  refine lv_iconst (v := 0) hx hb dX11_shiftsOf_12 (by decide) ?_
  obtain ⟨q_, s3, hc, hB⟩ := bindI_inv hB
  refine q_goiF (va_runV (As := [.int 3, .int 0]) (rest := []) C (cr_lawTells hc _) (cwV 2 hts gX11_shiftsOf_X11_lawTells rfl rfl rfl (by decide +kernel) ⟨Nat.le_of_ble_eq_true rfl, Nat.le_of_ble_eq_true rfl⟩) (q_preV hK hP (ci := 11) (q0 := 0) rfl rfl rfl (q_preF hN hK hP hD)) rfl rfl hl.1 rfl (lv_room (Nat.le_of_ble_eq_true rfl)) dX11_shiftsOf_13 ⟨Nat.le_of_ble_eq_true rfl, Nat.le_of_ble_eq_true rfl⟩) hD hS hA (fun r4 w1 H locs hw hP hD hS => ?_)
  obtain ⟨hq_, hw⟩ := hw; subst hw; subst hq_
  refine lv_iconst (v := 0) hx hb dX11_shiftsOf_16 (by decide) ?_
  refine lv_bipush (v := 100) hx hb dX11_shiftsOf_17 (by decide) ?_
  obtain ⟨q_, hc, hB⟩ := bindP_inv hB
  refine q_goi0 (va_runS (As := [.int r4, .int 0, .int 100]) (rest := []) C (cr_within hc _) (va_cwS 3 hts gX11_shiftsOf_X11_within rfl rfl rfl (by decide +kernel) ⟨Nat.le_of_ble_eq_true rfl, Nat.le_of_ble_eq_true rfl⟩) (q_pre0 hN hK) rfl rfl hl.1 rfl (lv_room (Nat.le_of_ble_eq_true rfl)) dX11_shiftsOf_19 ⟨Nat.le_of_ble_eq_true rfl, Nat.le_of_ble_eq_true rfl⟩) hP hD hS hA (fun r5 w1 H locs hw hP hS => ?_)
  subst hw
  exact q_iret C hr hlocks hK hP hD hS (Nat.le_of_ble_eq_true rfl) (Nat.le_of_ble_eq_true rfl) dX11_shiftsOf_22 (by cases hB; exact ⟨rfl, rfl⟩)
theorem cr_shiftsOf {l : Launch} {dC : Nat → ClassId} {dI : Nat → Nat → Nat} {cB cI cJ cZ cS : ClassId} {h : Nat} {a : Nat → Nat} {r : Int32} {s' : RS} {s : RS} {x1 : Int32} (hB : r_shiftsOf s x1 = some (r, s')) : CI l yX11_shiftsOf wsX11_shiftsOf ({ frames := 3, cells := 0, slots := 0, locals := 66 }) (dC, dI) (tysA cB cI cJ cZ cS) (mwS cB cI cJ cZ h a s) [.ref h, .int x1] (fun x u => x = r ∧ u = (mwS cB cI cJ cZ h a s')) :=
  CI_of (cc := cX11_shiftsOf) (maxL := 2) (ret := (some .int)) (by decide) rfl (Nat.le_of_ble_eq_true rfl) (br_shiftsOf _ _ hB)
set_option maxHeartbeats 4000000 in
set_option maxRecDepth 100000 in
theorem br_doesBear {l : Launch} {dC : Nat → ClassId} {dI : Nat → Nat → Nat} {cB cI cJ cZ cS : ClassId} {h : Nat} {a : Nat → Nat} {as : List Value} {r : Int32} {s' : RS} (s : RS) (x1 : Int32) (x2 : Int32) (x3 : Int32) (hB : r_doesBear s x1 x2 x3 = some (r, s')) : BlkI l yX11_doesBear wsX11_doesBear ({ frames := 4, cells := 0, slots := 0, locals := 89 }) cX11_doesBear 4 (some .boolean) (dC, dI) (tysA cB cI cJ cZ cS) as 0 (mwS cB cI cJ cZ h a s) [(0, .ref h), (1, .int x1), (2, .int x2), (3, .int x3)] [] (fun x u => x = r ∧ u = (mwS cB cI cJ cZ h a s')) := by
  intro p e s0 m below meth c A E H locs ls hP hD hS hl
  obtain ⟨C, hr, hlocks, hA, hK, hN⟩ := id E
  obtain ⟨hx, hb, hml, hown, hts⟩ := id C
  unfold r_doesBear at hB
  refine lv_aload_n hx hb dX11_doesBear_0 rfl (lv_at hl 0 rfl) ?_
  refine lv_iload_n hx hb dX11_doesBear_1 rfl (lv_at hl 2 rfl) ?_
  refine lv_iload_n hx hb dX11_doesBear_2 rfl (lv_at hl 3 rfl) ?_
  obtain ⟨q_, s1, hc, hB⟩ := bindI_inv hB
  refine q_goiF (va_runV (As := [.int x2, .int x3]) (rest := []) C (cr_oddsAt hc _) (cwV 2 hts gX11_doesBear_X11_oddsAt rfl rfl rfl (by decide +kernel) ⟨Nat.le_of_ble_eq_true rfl, Nat.le_of_ble_eq_true rfl⟩) (q_preV hK hP (ci := 11) (q0 := 0) rfl rfl rfl (q_preF hN hK hP hD)) rfl rfl hl.1 rfl (lv_room (Nat.le_of_ble_eq_true rfl)) dX11_doesBear_3 ⟨Nat.le_of_ble_eq_true rfl, Nat.le_of_ble_eq_true rfl⟩) hD hS hA (fun r2 w1 H locs hw hP hD hS => ?_)
  obtain ⟨hq_, hw⟩ := hw; subst hw; subst hq_
  refine lv_aload_n hx hb dX11_doesBear_6 rfl (lv_at hl 0 rfl) ?_
  refine lv_iload_n hx hb dX11_doesBear_7 rfl (lv_at hl 1 rfl) ?_
  refine lv_iload_n hx hb dX11_doesBear_8 rfl (lv_at hl 2 rfl) ?_
  refine lv_iload_n hx hb dX11_doesBear_9 rfl (lv_at hl 3 rfl) ?_
  obtain ⟨q_, s3, hc, hB⟩ := bindI_inv hB
  refine q_goiF (va_runV (As := [.int x1, .int x2, .int x3]) (rest := [.int r2]) C (cr_needsOf hc _) (cwV 3 hts gX11_doesBear_X11_needsOf rfl rfl rfl (by decide +kernel) ⟨Nat.le_of_ble_eq_true rfl, Nat.le_of_ble_eq_true rfl⟩) (q_preV hK hP (ci := 11) (q0 := 0) rfl rfl rfl (q_preF hN hK hP hD)) rfl rfl hl.1 rfl (lv_room (Nat.le_of_ble_eq_true rfl)) dX11_doesBear_10 ⟨Nat.le_of_ble_eq_true rfl, Nat.le_of_ble_eq_true rfl⟩) hD hS hA (fun r4 w1 H locs hw hP hD hS => ?_)
  obtain ⟨hq_, hw⟩ := hw; subst hw; subst hq_
  refine lv_icmp_lt (tgt := 20) hx hb dX11_doesBear_13 (by decide) (fun c5 => ?_) (fun c5 => ?_)
  · have hB := if_p hB c5
    refine lv_iconst (v := 0) hx hb dX11_doesBear_20 (by decide) ?_
    exact q_zret C hr hlocks (Or.inl rfl) hK hP hD hS (Nat.le_of_ble_eq_true rfl) (Nat.le_of_ble_eq_true rfl) dX11_doesBear_21 (by cases hB; exact ⟨rfl, rfl⟩)
  · have hB := if_n hB c5
    refine lv_iconst (v := 1) hx hb dX11_doesBear_16 (by decide) ?_
    refine lv_goto (tgt := 21) hx hb dX11_doesBear_17 (by decide) ?_
    exact q_zret C hr hlocks (Or.inr rfl) hK hP hD hS (Nat.le_of_ble_eq_true rfl) (Nat.le_of_ble_eq_true rfl) dX11_doesBear_21 (by cases hB; exact ⟨rfl, rfl⟩)
theorem cr_doesBear {l : Launch} {dC : Nat → ClassId} {dI : Nat → Nat → Nat} {cB cI cJ cZ cS : ClassId} {h : Nat} {a : Nat → Nat} {r : Int32} {s' : RS} {s : RS} {x1 : Int32} {x2 : Int32} {x3 : Int32} (hB : r_doesBear s x1 x2 x3 = some (r, s')) : CI l yX11_doesBear wsX11_doesBear ({ frames := 4, cells := 0, slots := 0, locals := 89 }) (dC, dI) (tysA cB cI cJ cZ cS) (mwS cB cI cJ cZ h a s) [.ref h, .int x1, .int x2, .int x3] (fun x u => x = r ∧ u = (mwS cB cI cJ cZ h a s')) :=
  CI_of (cc := cX11_doesBear) (maxL := 4) (ret := (some .boolean)) (by decide) rfl (Nat.le_of_ble_eq_true rfl) (br_doesBear _ _ _ _ hB)
theorem LX11_bearsBy_215 : Cond.fieldLink RX11 215 "GuessFerryModel" "live" "I" ∈ wsX11_bearsBy := by decide +kernel
theorem LX11_bearsBy_40 : Cond.fieldLink RX11 40 "GuessFerryModel" "waves" "[I" ∈ wsX11_bearsBy := by decide +kernel
theorem inX11_bearsBy_X11 : ∀ w ∈ u_ws RX11 TX11 58, w ∈ wsX11_bearsBy := by decide +kernel
set_option maxHeartbeats 4000000 in
set_option maxRecDepth 100000 in
theorem br_bearsBy_2 {l : Launch} {dC : Nat → ClassId} {dI : Nat → Nat → Nat} {cB cI cJ cZ cS : ClassId} {h : Nat} {a : Nat → Nat} {as : List Value} {r : Int32} {s' : RS} {k2 : RS → Int32 → Int32 → Int32 → Option (Int32 × RS)} (hk2 : ∀ (s : RS) (x1 : Int32) (x2 : Int32) (x3 : Int32), k2 s x1 x2 x3 = some (r, s') → BlkI l yX11_bearsBy wsX11_bearsBy ({ frames := 5, cells := 0, slots := 0, locals := 112 }) cX11_bearsBy 4 (some .int) (dC, dI) (tysA cB cI cJ cZ cS) as 2 (mwS cB cI cJ cZ h a s) [(0, .ref h), (1, .int x1), (2, .int x2), (3, .int x3)] [] (fun x u => x = r ∧ u = (mwS cB cI cJ cZ h a s'))) (s : RS) (x1 : Int32) (x2 : Int32) (x3 : Int32) (hB : r_bearsBy_2 k2 s x1 x2 x3 = some (r, s')) : BlkI l yX11_bearsBy wsX11_bearsBy ({ frames := 5, cells := 0, slots := 0, locals := 112 }) cX11_bearsBy 4 (some .int) (dC, dI) (tysA cB cI cJ cZ cS) as 2 (mwS cB cI cJ cZ h a s) [(0, .ref h), (1, .int x1), (2, .int x2), (3, .int x3)] [] (fun x u => x = r ∧ u = (mwS cB cI cJ cZ h a s')) := by
  intro p e s0 m below meth c A E H locs ls hP hD hS hl
  obtain ⟨C, hr, hlocks, hA, hK, hN⟩ := id E
  obtain ⟨hx, hb, hml, hown, hts⟩ := id C
  unfold r_bearsBy_2 at hB
  refine lv_iload_n hx hb dX11_bearsBy_2 rfl (lv_at hl 3 rfl) ?_
  refine lv_aload_n hx hb dX11_bearsBy_3 rfl (lv_at hl 0 rfl) ?_
  refine q_get (v := .ref (a 20)) C inX11_bearsBy_X11 hK hP 0 rfl rfl 20 (by decide) rfl LX11_bearsBy_40 rfl dX11_bearsBy_4 ?_
  refine lv_aload_n hx hb dX11_bearsBy_7 rfl (lv_at hl 0 rfl) ?_
  refine q_get (v := .int (s.v 18)) C inX11_bearsBy_X11 hK hP 0 rfl rfl 18 (by decide) rfl LX11_bearsBy_215 rfl dX11_bearsBy_8 ?_
  obtain ⟨g1, hB⟩ := guard_inv hB
  refine q_iald (x := (s.f 20 (Int32.toNatClampNeg (s.v 18)))) C hK hP 8 1 rfl rfl (vpb_in g1) dX11_bearsBy_11 rfl ?_
  refine lv_icmp_ge (tgt := 36) hx hb dX11_bearsBy_12 (by decide) (fun c2 => ?_) (fun c2 => ?_)
  · have hB := if_p hB c2
    refine lv_iload_n hx hb dX11_bearsBy_36 rfl (lv_at hl 3 rfl) ?_
    exact q_iret C hr hlocks hK hP hD hS (Nat.le_of_ble_eq_true rfl) (Nat.le_of_ble_eq_true rfl) dX11_bearsBy_37 (by cases hB; exact ⟨rfl, rfl⟩)
  · have hB := if_n hB c2
    refine lv_aload_n hx hb dX11_bearsBy_15 rfl (lv_at hl 0 rfl) ?_
    refine lv_iload_n hx hb dX11_bearsBy_16 rfl (lv_at hl 1 rfl) ?_
    refine lv_iload_n hx hb dX11_bearsBy_17 rfl (lv_at hl 3 rfl) ?_
    refine lv_aload_n hx hb dX11_bearsBy_18 rfl (lv_at hl 0 rfl) ?_
    refine lv_iload_n hx hb dX11_bearsBy_19 rfl (lv_at hl 2 rfl) ?_
    refine lv_iload_n hx hb dX11_bearsBy_20 rfl (lv_at hl 3 rfl) ?_
    obtain ⟨q_, s3, hc, hB⟩ := bindI_inv hB
    refine q_goiF (va_runV (As := [.int x2, .int x3]) (rest := [.int x3, .int x1, .ref h]) C (cr_thingAt hc _) (cwV 2 hts gX11_bearsBy_X11_thingAt rfl rfl rfl (by decide +kernel) ⟨Nat.le_of_ble_eq_true rfl, Nat.le_of_ble_eq_true rfl⟩) (q_preV hK hP (ci := 11) (q0 := 0) rfl rfl rfl (q_preF hN hK hP hD)) rfl rfl hl.1 rfl (lv_room (Nat.le_of_ble_eq_true rfl)) dX11_bearsBy_21 ⟨Nat.le_of_ble_eq_true rfl, Nat.le_of_ble_eq_true rfl⟩) hD hS hA (fun r4 w1 H locs hw hP hD hS => ?_)
    obtain ⟨hq_, hw⟩ := hw; subst hw; subst hq_
    obtain ⟨q_, s5, hc, hB⟩ := bindI_inv hB
    refine q_goiF (va_runV (As := [.int x1, .int x3, .int r4]) (rest := []) C (cr_doesBear hc _) (cwV 3 hts gX11_bearsBy_X11_doesBear rfl rfl rfl (by decide +kernel) ⟨Nat.le_of_ble_eq_true rfl, Nat.le_of_ble_eq_true rfl⟩) (q_preV hK hP (ci := 11) (q0 := 0) rfl rfl rfl (q_preF hN hK hP hD)) rfl rfl hl.1 rfl (lv_room (Nat.le_of_ble_eq_true rfl)) dX11_bearsBy_24 ⟨Nat.le_of_ble_eq_true rfl, Nat.le_of_ble_eq_true rfl⟩) hD hS hA (fun r6 w1 H locs hw hP hD hS => ?_)
    obtain ⟨hq_, hw⟩ := hw; subst hw; subst hq_
    refine lv_if_eq (tgt := 36) hx hb dX11_bearsBy_27 (by decide) (fun c7 => ?_) (fun c7 => ?_)
    · have hB := if_p hB c7
      refine lv_iload_n hx hb dX11_bearsBy_36 rfl (lv_at hl 3 rfl) ?_
      exact q_iret C hr hlocks hK hP hD hS (Nat.le_of_ble_eq_true rfl) (Nat.le_of_ble_eq_true rfl) dX11_bearsBy_37 (by cases hB; exact ⟨rfl, rfl⟩)
    · have hB := if_n hB c7
      refine lv_iinc (v := (x3 + 1)) (lv' := [(3, .int (x3 + 1)), (0, .ref h), (1, .int x1), (2, .int x2)]) hx hb dX11_bearsBy_30 hl (k := 3) rfl (rfl) (by decide) rfl (fun ls hl => ?_)
      refine lv_goto (tgt := 2) hx hb dX11_bearsBy_33 (by decide) ?_
      exact hk2 _ _ _ _ hB p e s0 m below meth c A E H locs ls hP hD hS (lv_sub hl [1, 2, 3, 0] rfl)
theorem br_bearsBy_2L {l : Launch} {dC : Nat → ClassId} {dI : Nat → Nat → Nat} {cB cI cJ cZ cS : ClassId} {h : Nat} {a : Nat → Nat} {as : List Value} {r : Int32} {s' : RS} : ∀ (n : Nat) (s : RS) (x1 : Int32) (x2 : Int32) (x3 : Int32), r_bearsBy_2L n s x1 x2 x3 = some (r, s') → BlkI l yX11_bearsBy wsX11_bearsBy ({ frames := 5, cells := 0, slots := 0, locals := 112 }) cX11_bearsBy 4 (some .int) (dC, dI) (tysA cB cI cJ cZ cS) as 2 (mwS cB cI cJ cZ h a s) [(0, .ref h), (1, .int x1), (2, .int x2), (3, .int x3)] [] (fun x u => x = r ∧ u = (mwS cB cI cJ cZ h a s')) := by
  intro n
  induction n with
  | zero => intro s x1 x2 x3 hB; exact none_ne hB
  | succ n ih => intro s x1 x2 x3 hB; exact br_bearsBy_2 ih _ _ _ _ hB
set_option maxHeartbeats 4000000 in
set_option maxRecDepth 100000 in
theorem br_bearsBy {l : Launch} {dC : Nat → ClassId} {dI : Nat → Nat → Nat} {cB cI cJ cZ cS : ClassId} {h : Nat} {a : Nat → Nat} {as : List Value} {r : Int32} {s' : RS} (s : RS) (x1 : Int32) (x2 : Int32) (hB : r_bearsBy s x1 x2 = some (r, s')) : BlkI l yX11_bearsBy wsX11_bearsBy ({ frames := 5, cells := 0, slots := 0, locals := 112 }) cX11_bearsBy 4 (some .int) (dC, dI) (tysA cB cI cJ cZ cS) as 0 (mwS cB cI cJ cZ h a s) [(0, .ref h), (1, .int x1), (2, .int x2)] [] (fun x u => x = r ∧ u = (mwS cB cI cJ cZ h a s')) := by
  intro p e s0 m below meth c A E H locs ls hP hD hS hl
  obtain ⟨C, hr, hlocks, hA, hK, hN⟩ := id E
  obtain ⟨hx, hb, hml, hown, hts⟩ := id C
  unfold r_bearsBy at hB
  refine lv_iconst (v := 0) hx hb dX11_bearsBy_0 (by decide) ?_
  refine lv_istore_n (lv' := [(3, .int 0), (0, .ref h), (1, .int x1), (2, .int x2)]) hx hb dX11_bearsBy_1 rfl hl (by decide) rfl (fun ls hl => ?_)
  exact br_bearsBy_2L fu _ _ _ _ hB p e s0 m below meth c A E H locs ls hP hD hS (lv_sub hl [1, 2, 3, 0] rfl)
theorem cr_bearsBy {l : Launch} {dC : Nat → ClassId} {dI : Nat → Nat → Nat} {cB cI cJ cZ cS : ClassId} {h : Nat} {a : Nat → Nat} {r : Int32} {s' : RS} {s : RS} {x1 : Int32} {x2 : Int32} (hB : r_bearsBy s x1 x2 = some (r, s')) : CI l yX11_bearsBy wsX11_bearsBy ({ frames := 5, cells := 0, slots := 0, locals := 112 }) (dC, dI) (tysA cB cI cJ cZ cS) (mwS cB cI cJ cZ h a s) [.ref h, .int x1, .int x2] (fun x u => x = r ∧ u = (mwS cB cI cJ cZ h a s')) :=
  CI_of (cc := cX11_bearsBy) (maxL := 4) (ret := (some .int)) (by decide) rfl (Nat.le_of_ble_eq_true rfl) (br_bearsBy _ _ _ hB)
theorem LX11_goesBy_101 : Cond.fieldLink RX11 101 "GuessFerryModel" "row" "[I" ∈ wsX11_goesBy := by decide +kernel
theorem LX11_goesBy_215 : Cond.fieldLink RX11 215 "GuessFerryModel" "live" "I" ∈ wsX11_goesBy := by decide +kernel
theorem LX11_goesBy_40 : Cond.fieldLink RX11 40 "GuessFerryModel" "waves" "[I" ∈ wsX11_goesBy := by decide +kernel
theorem inX11_goesBy_X11 : ∀ w ∈ u_ws RX11 TX11 58, w ∈ wsX11_goesBy := by decide +kernel
set_option maxHeartbeats 4000000 in
set_option maxRecDepth 100000 in
theorem br_goesBy_39 {l : Launch} {dC : Nat → ClassId} {dI : Nat → Nat → Nat} {cB cI cJ cZ cS : ClassId} {h : Nat} {a : Nat → Nat} {as : List Value} {r : Int32} {s' : RS} {k39 : RS → Int32 → Int32 → Int32 → Int32 → Int32 → Option (Int32 × RS)} (hk39 : ∀ (s : RS) (x1 : Int32) (x2 : Int32) (x3 : Int32) (x4 : Int32) (x5 : Int32), k39 s x1 x2 x3 x4 x5 = some (r, s') → BlkI l yX11_goesBy wsX11_goesBy ({ frames := 6, cells := 0, slots := 0, locals := 135 }) cX11_goesBy 7 (some .int) (dC, dI) (tysA cB cI cJ cZ cS) as 39 (mwS cB cI cJ cZ h a s) [(0, .ref h), (1, .int x1), (2, .int x2), (3, .int x3), (4, .int x4), (5, .int x5)] [] (fun x u => x = r ∧ u = (mwS cB cI cJ cZ h a s'))) (s : RS) (x1 : Int32) (x2 : Int32) (x3 : Int32) (x4 : Int32) (x5 : Int32) (hB : r_goesBy_39 k39 s x1 x2 x3 x4 x5 = some (r, s')) : BlkI l yX11_goesBy wsX11_goesBy ({ frames := 6, cells := 0, slots := 0, locals := 135 }) cX11_goesBy 7 (some .int) (dC, dI) (tysA cB cI cJ cZ cS) as 39 (mwS cB cI cJ cZ h a s) [(0, .ref h), (1, .int x1), (2, .int x2), (3, .int x3), (4, .int x4), (5, .int x5)] [] (fun x u => x = r ∧ u = (mwS cB cI cJ cZ h a s')) := by
  intro p e s0 m below meth c A E H locs ls hP hD hS hl
  obtain ⟨C, hr, hlocks, hA, hK, hN⟩ := id E
  obtain ⟨hx, hb, hml, hown, hts⟩ := id C
  unfold r_goesBy_39 at hB
  refine lv_iload hx hb dX11_goesBy_39 (lv_at hl 5 rfl) ?_
  refine lv_aload_n hx hb dX11_goesBy_41 rfl (lv_at hl 0 rfl) ?_
  refine q_get (v := .ref (a 20)) C inX11_goesBy_X11 hK hP 0 rfl rfl 20 (by decide) rfl LX11_goesBy_40 rfl dX11_goesBy_42 ?_
  refine lv_aload_n hx hb dX11_goesBy_45 rfl (lv_at hl 0 rfl) ?_
  refine q_get (v := .int (s.v 18)) C inX11_goesBy_X11 hK hP 0 rfl rfl 18 (by decide) rfl LX11_goesBy_215 rfl dX11_goesBy_46 ?_
  obtain ⟨g1, hB⟩ := guard_inv hB
  refine q_iald (x := (s.f 20 (Int32.toNatClampNeg (s.v 18)))) C hK hP 8 1 rfl rfl (vpb_in g1) dX11_goesBy_49 rfl ?_
  refine lv_icmp_ge (tgt := 128) hx hb dX11_goesBy_50 (by decide) (fun c2 => ?_) (fun c2 => ?_)
  · have hB := if_p hB c2
    refine lv_aload_n hx hb dX11_goesBy_128 rfl (lv_at hl 0 rfl) ?_
    refine q_get (v := .ref (a 44)) C inX11_goesBy_X11 hK hP 0 rfl rfl 44 (by decide) rfl LX11_goesBy_101 rfl dX11_goesBy_129 ?_
    refine lv_bipush (v := 15) hx hb dX11_goesBy_132 (by decide) ?_
    refine lv_iload_n hx hb dX11_goesBy_134 rfl (lv_at hl 1 rfl) ?_
    refine lv_iadd hx hb dX11_goesBy_135 ?_
    refine lv_iconst (v := 2) hx hb dX11_goesBy_136 (by decide) ?_
    obtain ⟨g3, hB⟩ := guard_inv hB
    obtain ⟨s4, hs5, hB⟩ := letS_inv hB
    refine q_iast (f2 := (upd (s.f 44) (Int32.toNatClampNeg (15 + x1)) 2)) (w2 := (mwS cB cI cJ cZ h a s4)) C hK hP hD hS 28 1 rfl rfl (vpb_in g3) dX11_goesBy_137 rfl (mwS_f44 hs5) (fun H locs hP hD hS => ?_)
    refine lv_aload_n hx hb dX11_goesBy_138 rfl (lv_at hl 0 rfl) ?_
    refine q_get (v := .ref (a 20)) C inX11_goesBy_X11 hK hP 0 rfl rfl 20 (by decide) rfl LX11_goesBy_40 rfl dX11_goesBy_139 ?_
    refine lv_aload_n hx hb dX11_goesBy_142 rfl (lv_at hl 0 rfl) ?_
    refine q_get (v := .int (s4.v 18)) C inX11_goesBy_X11 hK hP 0 rfl rfl 18 (by decide) rfl LX11_goesBy_215 rfl dX11_goesBy_143 ?_
    obtain ⟨g6, hB⟩ := guard_inv hB
    refine q_iald (x := (s4.f 20 (Int32.toNatClampNeg (s4.v 18)))) C hK hP 8 1 rfl rfl (vpb_in g6) dX11_goesBy_146 rfl ?_
    exact q_iret C hr hlocks hK hP hD hS (Nat.le_of_ble_eq_true rfl) (Nat.le_of_ble_eq_true rfl) dX11_goesBy_147 (by cases hB; exact ⟨rfl, rfl⟩)
  · have hB := if_n hB c2
    refine lv_aload_n hx hb dX11_goesBy_53 rfl (lv_at hl 0 rfl) ?_
    refine lv_iload_n hx hb dX11_goesBy_54 rfl (lv_at hl 2 rfl) ?_
    refine lv_iload hx hb dX11_goesBy_55 (lv_at hl 5 rfl) ?_
    obtain ⟨q_, s7, hc, hB⟩ := bindI_inv hB
    refine q_goiF (va_runV (As := [.int x2, .int x5]) (rest := []) C (cr_thingAt hc _) (cwV 2 hts gX11_goesBy_X11_thingAt rfl rfl rfl (by decide +kernel) ⟨Nat.le_of_ble_eq_true rfl, Nat.le_of_ble_eq_true rfl⟩) (q_preV hK hP (ci := 11) (q0 := 0) rfl rfl rfl (q_preF hN hK hP hD)) rfl rfl hl.1 rfl (lv_room (Nat.le_of_ble_eq_true rfl)) dX11_goesBy_57 ⟨Nat.le_of_ble_eq_true rfl, Nat.le_of_ble_eq_true rfl⟩) hD hS hA (fun r8 w1 H locs hw hP hD hS => ?_)
    obtain ⟨hq_, hw⟩ := hw; subst hw; subst hq_
    refine lv_istore (lv' := [(6, .int r8), (0, .ref h), (1, .int x1), (2, .int x2), (3, .int x3), (4, .int x4), (5, .int x5)]) hx hb dX11_goesBy_60 hl (by decide) rfl (fun ls hl => ?_)
    refine lv_iload hx hb dX11_goesBy_62 (lv_at hl 6 rfl) ?_
    refine lv_iload hx hb dX11_goesBy_64 (lv_at hl 5 rfl) ?_
    refine lv_icmp_ne (tgt := 82) hx hb dX11_goesBy_66 (by decide) (fun c9 => ?_) (fun c9 => ?_)
    · have hB := if_n hB c9
      refine lv_iload hx hb dX11_goesBy_82 (lv_at hl 0 rfl) ?_
      refine lv_aload_n hx hb dX11_goesBy_84 rfl (lv_at hl 1 rfl) ?_
      refine lv_iload_n hx hb dX11_goesBy_85 rfl (lv_at hl 4 rfl) ?_
      refine lv_iload hx hb dX11_goesBy_86 (lv_at hl 6 rfl) ?_
      obtain ⟨q_, s10, hc, hB⟩ := bindI_inv hB
      refine q_goiF (va_runV (As := [.int x3, .int x5]) (rest := [.int r8]) C (cr_thingAt hc _) (cwV 2 hts gX11_goesBy_X11_thingAt rfl rfl rfl (by decide +kernel) ⟨Nat.le_of_ble_eq_true rfl, Nat.le_of_ble_eq_true rfl⟩) (q_preV hK hP (ci := 11) (q0 := 0) rfl rfl rfl (q_preF hN hK hP hD)) rfl rfl hl.1 rfl (lv_room (Nat.le_of_ble_eq_true rfl)) dX11_goesBy_88 ⟨Nat.le_of_ble_eq_true rfl, Nat.le_of_ble_eq_true rfl⟩) hD hS hA (fun r11 w1 H locs hw hP hD hS => ?_)
      obtain ⟨hq_, hw⟩ := hw; subst hw; subst hq_
      refine lv_icmp_eq (tgt := 111) hx hb dX11_goesBy_91 (by decide) (fun c12 => ?_) (fun c12 => ?_)
      · have hB := if_p hB c12
        refine lv_aload_n hx hb dX11_goesBy_111 rfl (lv_at hl 1 rfl) ?_
        refine q_get (v := .ref (a 44)) C inX11_goesBy_X11 hK hP 0 rfl rfl 44 (by decide) rfl LX11_goesBy_101 rfl dX11_goesBy_112 ?_
        refine lv_iconst (v := 5) hx hb dX11_goesBy_115 (by decide) ?_
        refine lv_iload hx hb dX11_goesBy_116 (lv_at hl 6 rfl) ?_
        refine lv_iadd hx hb dX11_goesBy_118 ?_
        refine lv_iload hx hb dX11_goesBy_119 (lv_at hl 0 rfl) ?_
        obtain ⟨g13, hB⟩ := guard_inv hB
        obtain ⟨s14, hs15, hB⟩ := letS_inv hB
        refine q_iast (f2 := (upd (s10.f 44) (Int32.toNatClampNeg (5 + x5)) r8)) (w2 := (mwS cB cI cJ cZ h a s14)) C hK hP hD hS 28 1 rfl rfl (vpb_in g13) dX11_goesBy_121 rfl (mwS_f44 hs15) (fun H locs hP hD hS => ?_)
        refine lv_iinc (v := (x5 + 1)) (lv' := [(5, .int (x5 + 1)), (6, .int r8), (0, .ref h), (1, .int x1), (2, .int x2), (3, .int x3), (4, .int x4)]) hx hb dX11_goesBy_122 hl (k := 6) rfl (rfl) (by decide) rfl (fun ls hl => ?_)
        refine lv_goto (tgt := 39) hx hb dX11_goesBy_125 (by decide) ?_
        exact hk39 _ _ _ _ _ _ hB p e s0 m below meth c A E H locs ls hP hD hS (lv_sub hl [2, 3, 4, 5, 6, 0] rfl)
      · have hB := if_n hB c12
        refine lv_aload_n hx hb dX11_goesBy_94 rfl (lv_at hl 1 rfl) ?_
        refine q_get (v := .ref (a 44)) C inX11_goesBy_X11 hK hP 0 rfl rfl 44 (by decide) rfl LX11_goesBy_101 rfl dX11_goesBy_95 ?_
        refine lv_iload hx hb dX11_goesBy_98 (lv_at hl 6 rfl) ?_
        refine lv_dup2_11 hx hb dX11_goesBy_100 rfl rfl ?_
        obtain ⟨g16, hB⟩ := guard_inv hB
        refine q_iald (x := (s10.f 44 (Int32.toNatClampNeg x5))) C hK hP 28 1 rfl rfl (vpb_in g16) dX11_goesBy_101 rfl ?_
        refine lv_iconst (v := 1) hx hb dX11_goesBy_102 (by decide) ?_
        refine lv_iload hx hb dX11_goesBy_103 (lv_at hl 0 rfl) ?_
        refine lv_ishl hx hb dX11_goesBy_105 ?_
        refine lv_ior hx hb dX11_goesBy_106 ?_
        obtain ⟨g17, hB⟩ := guard_inv hB
        obtain ⟨s18, hs19, hB⟩ := letS_inv hB
        refine q_iast (f2 := (upd (s10.f 44) (Int32.toNatClampNeg x5) ((s10.f 44 (Int32.toNatClampNeg x5)) ||| (1 <<< (r8 &&& 31))))) (w2 := (mwS cB cI cJ cZ h a s18)) C hK hP hD hS 28 1 rfl rfl (vpb_in g17) dX11_goesBy_107 rfl (mwS_f44 hs19) (fun H locs hP hD hS => ?_)
        refine lv_iload hx hb dX11_goesBy_108 (lv_at hl 6 rfl) ?_
        exact q_iret C hr hlocks hK hP hD hS (Nat.le_of_ble_eq_true rfl) (Nat.le_of_ble_eq_true rfl) dX11_goesBy_110 (by cases hB; exact ⟨rfl, rfl⟩)
    · have hB := if_p hB c9
      refine lv_aload_n hx hb dX11_goesBy_69 rfl (lv_at hl 1 rfl) ?_
      refine q_get (v := .ref (a 44)) C inX11_goesBy_X11 hK hP 0 rfl rfl 44 (by decide) rfl LX11_goesBy_101 rfl dX11_goesBy_70 ?_
      refine lv_bipush (v := 15) hx hb dX11_goesBy_73 (by decide) ?_
      refine lv_iload_n hx hb dX11_goesBy_75 rfl (lv_at hl 2 rfl) ?_
      refine lv_iadd hx hb dX11_goesBy_76 ?_
      refine lv_iconst (v := 1) hx hb dX11_goesBy_77 (by decide) ?_
      obtain ⟨g20, hB⟩ := guard_inv hB
      obtain ⟨s21, hs22, hB⟩ := letS_inv hB
      refine q_iast (f2 := (upd (s7.f 44) (Int32.toNatClampNeg (15 + x1)) 1)) (w2 := (mwS cB cI cJ cZ h a s21)) C hK hP hD hS 28 1 rfl rfl (vpb_in g20) dX11_goesBy_78 rfl (mwS_f44 hs22) (fun H locs hP hD hS => ?_)
      refine lv_iload hx hb dX11_goesBy_79 (lv_at hl 6 rfl) ?_
      exact q_iret C hr hlocks hK hP hD hS (Nat.le_of_ble_eq_true rfl) (Nat.le_of_ble_eq_true rfl) dX11_goesBy_81 (by cases hB; exact ⟨rfl, rfl⟩)
theorem br_goesBy_39L {l : Launch} {dC : Nat → ClassId} {dI : Nat → Nat → Nat} {cB cI cJ cZ cS : ClassId} {h : Nat} {a : Nat → Nat} {as : List Value} {r : Int32} {s' : RS} : ∀ (n : Nat) (s : RS) (x1 : Int32) (x2 : Int32) (x3 : Int32) (x4 : Int32) (x5 : Int32), r_goesBy_39L n s x1 x2 x3 x4 x5 = some (r, s') → BlkI l yX11_goesBy wsX11_goesBy ({ frames := 6, cells := 0, slots := 0, locals := 135 }) cX11_goesBy 7 (some .int) (dC, dI) (tysA cB cI cJ cZ cS) as 39 (mwS cB cI cJ cZ h a s) [(0, .ref h), (1, .int x1), (2, .int x2), (3, .int x3), (4, .int x4), (5, .int x5)] [] (fun x u => x = r ∧ u = (mwS cB cI cJ cZ h a s')) := by
  intro n
  induction n with
  | zero => intro s x1 x2 x3 x4 x5 hB; exact none_ne hB
  | succ n ih => intro s x1 x2 x3 x4 x5 hB; exact br_goesBy_39 ih _ _ _ _ _ _ hB
set_option maxHeartbeats 4000000 in
set_option maxRecDepth 100000 in
theorem br_goesBy {l : Launch} {dC : Nat → ClassId} {dI : Nat → Nat → Nat} {cB cI cJ cZ cS : ClassId} {h : Nat} {a : Nat → Nat} {as : List Value} {r : Int32} {s' : RS} (s : RS) (x1 : Int32) (x2 : Int32) (x3 : Int32) (hB : r_goesBy s x1 x2 x3 = some (r, s')) : BlkI l yX11_goesBy wsX11_goesBy ({ frames := 6, cells := 0, slots := 0, locals := 135 }) cX11_goesBy 7 (some .int) (dC, dI) (tysA cB cI cJ cZ cS) as 0 (mwS cB cI cJ cZ h a s) [(0, .ref h), (1, .int x1), (2, .int x2), (3, .int x3)] [] (fun x u => x = r ∧ u = (mwS cB cI cJ cZ h a s')) := by
  intro p e s0 m below meth c A E H locs ls hP hD hS hl
  obtain ⟨C, hr, hlocks, hA, hK, hN⟩ := id E
  obtain ⟨hx, hb, hml, hown, hts⟩ := id C
  unfold r_goesBy at hB
  refine lv_aload_n hx hb dX11_goesBy_0 rfl (lv_at hl 0 rfl) ?_
  refine lv_iload_n hx hb dX11_goesBy_1 rfl (lv_at hl 1 rfl) ?_
  refine lv_iload_n hx hb dX11_goesBy_2 rfl (lv_at hl 2 rfl) ?_
  obtain ⟨q_, s1, hc, hB⟩ := bindI_inv hB
  refine q_goiF (va_runV (As := [.int x1, .int x2]) (rest := []) C (cr_bearsBy hc _) (cwV 2 hts gX11_goesBy_X11_bearsBy rfl rfl rfl (by decide +kernel) ⟨Nat.le_of_ble_eq_true rfl, Nat.le_of_ble_eq_true rfl⟩) (q_preV hK hP (ci := 11) (q0 := 0) rfl rfl rfl (q_preF hN hK hP hD)) rfl rfl hl.1 rfl (lv_room (Nat.le_of_ble_eq_true rfl)) dX11_goesBy_3 ⟨Nat.le_of_ble_eq_true rfl, Nat.le_of_ble_eq_true rfl⟩) hD hS hA (fun r2 w1 H locs hw hP hD hS => ?_)
  obtain ⟨hq_, hw⟩ := hw; subst hw; subst hq_
  refine lv_istore (lv' := [(4, .int r2), (0, .ref h), (1, .int x1), (2, .int x2), (3, .int x3)]) hx hb dX11_goesBy_6 hl (by decide) rfl (fun ls hl => ?_)
  refine lv_aload_n hx hb dX11_goesBy_8 rfl (lv_at hl 1 rfl) ?_
  refine q_get (v := .ref (a 44)) C inX11_goesBy_X11 hK hP 0 rfl rfl 44 (by decide) rfl LX11_goesBy_101 rfl dX11_goesBy_9 ?_
  refine lv_bipush (v := 28) hx hb dX11_goesBy_12 (by decide) ?_
  refine lv_dup2_11 hx hb dX11_goesBy_14 rfl rfl ?_
  refine q_iald (x := (s1.f 44 28)) C hK hP 28 1 rfl rfl (vp_lit (by decide +kernel)) dX11_goesBy_15 rfl ?_
  refine lv_aload_n hx hb dX11_goesBy_16 rfl (lv_at hl 1 rfl) ?_
  refine lv_iload_n hx hb dX11_goesBy_17 rfl (lv_at hl 2 rfl) ?_
  obtain ⟨q_, s3, hc, hB⟩ := bindI_inv hB
  refine q_goiF (va_runV (As := [.int x1]) (rest := [.int (s1.f 44 28), .int 28, .ref (a 44)]) C (cr_faresOf hc _) (cwV 1 hts gX11_goesBy_X11_faresOf rfl rfl rfl (by decide +kernel) ⟨Nat.le_of_ble_eq_true rfl, Nat.le_of_ble_eq_true rfl⟩) (q_preV hK hP (ci := 11) (q0 := 0) rfl rfl rfl (q_preF hN hK hP hD)) rfl rfl hl.1 rfl (lv_room (Nat.le_of_ble_eq_true rfl)) dX11_goesBy_18 ⟨Nat.le_of_ble_eq_true rfl, Nat.le_of_ble_eq_true rfl⟩) hD hS hA (fun r4 w1 H locs hw hP hD hS => ?_)
  obtain ⟨hq_, hw⟩ := hw; subst hw; subst hq_
  refine lv_iadd hx hb dX11_goesBy_21 ?_
  obtain ⟨s5, hs6, hB⟩ := letS_inv hB
  refine q_iast (f2 := (upd (s3.f 44) 28 ((s1.f 44 28) + r4))) (w2 := (mwS cB cI cJ cZ h a s5)) C hK hP hD hS 28 1 rfl rfl (vp_lit (by decide +kernel)) dX11_goesBy_22 rfl (mwS_f44 hs6) (fun H locs hP hD hS => ?_)
  refine lv_aload_n hx hb dX11_goesBy_23 rfl (lv_at hl 1 rfl) ?_
  refine q_get (v := .ref (a 44)) C inX11_goesBy_X11 hK hP 0 rfl rfl 44 (by decide) rfl LX11_goesBy_101 rfl dX11_goesBy_24 ?_
  refine lv_bipush (v := 21) hx hb dX11_goesBy_27 (by decide) ?_
  refine lv_iload_n hx hb dX11_goesBy_29 rfl (lv_at hl 2 rfl) ?_
  refine lv_iadd hx hb dX11_goesBy_30 ?_
  refine lv_dup2_11 hx hb dX11_goesBy_31 rfl rfl ?_
  obtain ⟨g7, hB⟩ := guard_inv hB
  refine q_iald (x := (s5.f 44 (Int32.toNatClampNeg (21 + x1)))) C hK hP 28 1 rfl rfl (vpb_in g7) dX11_goesBy_32 rfl ?_
  refine lv_iconst (v := 1) hx hb dX11_goesBy_33 (by decide) ?_
  refine lv_iadd hx hb dX11_goesBy_34 ?_
  obtain ⟨g8, hB⟩ := guard_inv hB
  obtain ⟨s9, hs10, hB⟩ := letS_inv hB
  refine q_iast (f2 := (upd (s5.f 44) (Int32.toNatClampNeg (21 + x1)) ((s5.f 44 (Int32.toNatClampNeg (21 + x1))) + 1))) (w2 := (mwS cB cI cJ cZ h a s9)) C hK hP hD hS 28 1 rfl rfl (vpb_in g8) dX11_goesBy_35 rfl (mwS_f44 hs10) (fun H locs hP hD hS => ?_)
  refine lv_iconst (v := 0) hx hb dX11_goesBy_36 (by decide) ?_
  refine lv_istore (lv' := [(5, .int 0), (4, .int r2), (0, .ref h), (1, .int x1), (2, .int x2), (3, .int x3)]) hx hb dX11_goesBy_37 hl (by decide) rfl (fun ls hl => ?_)
  exact br_goesBy_39L fu _ _ _ _ _ _ hB p e s0 m below meth c A E H locs ls hP hD hS (lv_sub hl [2, 3, 4, 5, 1, 0] rfl)
theorem cr_goesBy {l : Launch} {dC : Nat → ClassId} {dI : Nat → Nat → Nat} {cB cI cJ cZ cS : ClassId} {h : Nat} {a : Nat → Nat} {r : Int32} {s' : RS} {s : RS} {x1 : Int32} {x2 : Int32} {x3 : Int32} (hB : r_goesBy s x1 x2 x3 = some (r, s')) : CI l yX11_goesBy wsX11_goesBy ({ frames := 6, cells := 0, slots := 0, locals := 135 }) (dC, dI) (tysA cB cI cJ cZ cS) (mwS cB cI cJ cZ h a s) [.ref h, .int x1, .int x2, .int x3] (fun x u => x = r ∧ u = (mwS cB cI cJ cZ h a s')) :=
  CI_of (cc := cX11_goesBy) (maxL := 7) (ret := (some .int)) (by decide) rfl (Nat.le_of_ble_eq_true rfl) (br_goesBy _ _ _ _ hB)
theorem LX11_yearGoes_101 : Cond.fieldLink RX11 101 "GuessFerryModel" "row" "[I" ∈ wsX11_yearGoes := by decide +kernel
theorem LX11_yearGoes_107 : Cond.fieldLink RX11 107 "GuessFerryModel" "shiftsNow" "[Z" ∈ wsX11_yearGoes := by decide +kernel
theorem LX11_yearGoes_215 : Cond.fieldLink RX11 215 "GuessFerryModel" "live" "I" ∈ wsX11_yearGoes := by decide +kernel
theorem LX11_yearGoes_40 : Cond.fieldLink RX11 40 "GuessFerryModel" "waves" "[I" ∈ wsX11_yearGoes := by decide +kernel
theorem LX11_yearGoes_K342 : Cond.constant RX11 342 1000000 ∈ wsX11_yearGoes := by decide +kernel
theorem inX11_yearGoes_X11 : ∀ w ∈ u_ws RX11 TX11 58, w ∈ wsX11_yearGoes := by decide +kernel
set_option maxHeartbeats 4000000 in
set_option maxRecDepth 100000 in
theorem br_yearGoes_119 {l : Launch} {dC : Nat → ClassId} {dI : Nat → Nat → Nat} {cB cI cJ cZ cS : ClassId} {h : Nat} {a : Nat → Nat} {as : List Value} {s' : RS} {k64 : RS → Int32 → Option RS} (hk64 : ∀ (s : RS) (x1 : Int32), k64 s x1 = some s' → BlkV l yX11_yearGoes wsX11_yearGoes ({ frames := 4, cells := 0, slots := 0, locals := 87 }) cX11_yearGoes 2 none (dC, dI) (tysA cB cI cJ cZ cS) as 64 (mwS cB cI cJ cZ h a s) [(0, .ref h), (1, .int x1)] [] (fun u => u = (mwS cB cI cJ cZ h a s'))) (s : RS) (x1 : Int32) (hB : r_yearGoes_119 k64 s x1 = some s') : BlkV l yX11_yearGoes wsX11_yearGoes ({ frames := 4, cells := 0, slots := 0, locals := 87 }) cX11_yearGoes 2 none (dC, dI) (tysA cB cI cJ cZ cS) as 119 (mwS cB cI cJ cZ h a s) [(0, .ref h), (1, .int x1)] [] (fun u => u = (mwS cB cI cJ cZ h a s')) := by
  intro p e s0 m below meth c A E H locs ls hP hD hS hl
  obtain ⟨C, hr, hlocks, hA, hK, hN⟩ := id E
  obtain ⟨hx, hb, hml, hown, hts⟩ := id C
  unfold r_yearGoes_119 at hB
  refine lv_iinc (v := (x1 + 1)) (lv' := [(1, .int (x1 + 1)), (0, .ref h)]) hx hb dX11_yearGoes_119 hl (k := 1) rfl (rfl) (by decide) rfl (fun ls hl => ?_)
  refine lv_goto (tgt := 64) hx hb dX11_yearGoes_122 (by decide) ?_
  exact hk64 _ _ hB p e s0 m below meth c A E H locs ls hP hD hS (lv_sub hl [1, 0] rfl)
set_option maxHeartbeats 4000000 in
set_option maxRecDepth 100000 in
theorem br_yearGoes_64 {l : Launch} {dC : Nat → ClassId} {dI : Nat → Nat → Nat} {cB cI cJ cZ cS : ClassId} {h : Nat} {a : Nat → Nat} {as : List Value} {s' : RS} {k64 : RS → Int32 → Option RS} (hk64 : ∀ (s : RS) (x1 : Int32), k64 s x1 = some s' → BlkV l yX11_yearGoes wsX11_yearGoes ({ frames := 4, cells := 0, slots := 0, locals := 87 }) cX11_yearGoes 2 none (dC, dI) (tysA cB cI cJ cZ cS) as 64 (mwS cB cI cJ cZ h a s) [(0, .ref h), (1, .int x1)] [] (fun u => u = (mwS cB cI cJ cZ h a s'))) (s : RS) (x1 : Int32) (hB : r_yearGoes_64 k64 s x1 = some s') : BlkV l yX11_yearGoes wsX11_yearGoes ({ frames := 4, cells := 0, slots := 0, locals := 87 }) cX11_yearGoes 2 none (dC, dI) (tysA cB cI cJ cZ cS) as 64 (mwS cB cI cJ cZ h a s) [(0, .ref h), (1, .int x1)] [] (fun u => u = (mwS cB cI cJ cZ h a s')) := by
  intro p e s0 m below meth c A E H locs ls hP hD hS hl
  obtain ⟨C, hr, hlocks, hA, hK, hN⟩ := id E
  obtain ⟨hx, hb, hml, hown, hts⟩ := id C
  unfold r_yearGoes_64 at hB
  refine lv_iload_n hx hb dX11_yearGoes_64 rfl (lv_at hl 1 rfl) ?_
  refine lv_aload_n hx hb dX11_yearGoes_65 rfl (lv_at hl 0 rfl) ?_
  refine q_get (v := .ref (a 20)) C inX11_yearGoes_X11 hK hP 0 rfl rfl 20 (by decide) rfl LX11_yearGoes_40 rfl dX11_yearGoes_66 ?_
  refine lv_aload_n hx hb dX11_yearGoes_69 rfl (lv_at hl 0 rfl) ?_
  refine q_get (v := .int (s.v 18)) C inX11_yearGoes_X11 hK hP 0 rfl rfl 18 (by decide) rfl LX11_yearGoes_215 rfl dX11_yearGoes_70 ?_
  obtain ⟨g1, hB⟩ := guard_inv hB
  refine q_iald (x := (s.f 20 (Int32.toNatClampNeg (s.v 18)))) C hK hP 8 1 rfl rfl (vpb_in g1) dX11_yearGoes_73 rfl ?_
  refine lv_icmp_ge (tgt := 125) hx hb dX11_yearGoes_74 (by decide) (fun c2 => ?_) (fun c2 => ?_)
  · have hB := if_p hB c2
    refine lv_aload_n hx hb dX11_yearGoes_125 rfl (lv_at hl 0 rfl) ?_
    refine q_get (v := .ref (a 44)) C inX11_yearGoes_X11 hK hP 0 rfl rfl 44 (by decide) rfl LX11_yearGoes_101 rfl dX11_yearGoes_126 ?_
    refine lv_bipush (v := 27) hx hb dX11_yearGoes_129 (by decide) ?_
    refine lv_dup2_11 hx hb dX11_yearGoes_131 rfl rfl ?_
    refine q_iald (x := (s.f 44 27)) C hK hP 28 1 rfl rfl (vp_lit (by decide +kernel)) dX11_yearGoes_132 rfl ?_
    refine lv_iconst (v := 1) hx hb dX11_yearGoes_133 (by decide) ?_
    refine lv_iadd hx hb dX11_yearGoes_134 ?_
    obtain ⟨s3, hs4, hB⟩ := letS_inv hB
    refine q_iast (f2 := (upd (s.f 44) 27 ((s.f 44 27) + 1))) (w2 := (mwS cB cI cJ cZ h a s3)) C hK hP hD hS 28 1 rfl rfl (vp_lit (by decide +kernel)) dX11_yearGoes_135 rfl (mwS_f44 hs4) (fun H locs hP hD hS => ?_)
    exact q_vret C hr hlocks hK hP hD hS (Nat.le_of_ble_eq_true rfl) (Nat.le_of_ble_eq_true rfl) dX11_yearGoes_136 (by cases hB; rfl)
  · have hB := if_n hB c2
    refine lv_aload_n hx hb dX11_yearGoes_77 rfl (lv_at hl 0 rfl) ?_
    refine q_get (v := .ref (a 47)) C inX11_yearGoes_X11 hK hP 0 rfl rfl 47 (by decide) rfl LX11_yearGoes_107 rfl dX11_yearGoes_78 ?_
    refine lv_iload_n hx hb dX11_yearGoes_81 rfl (lv_at hl 1 rfl) ?_
    obtain ⟨g5, hB⟩ := guard_inv hB
    refine q_zald (x := (s.f 47 (Int32.toNatClampNeg x1))) C hK hP 30 3 rfl rfl (vpb_in g5) dX11_yearGoes_82 rfl ?_
    refine lv_if_ne (tgt := 89) hx hb dX11_yearGoes_83 (by decide) (fun c6 => ?_) (fun c6 => ?_)
    · have hB := if_n hB c6
      refine lv_aload_n hx hb dX11_yearGoes_89 rfl (lv_at hl 0 rfl) ?_
      refine q_get (v := .ref (a 44)) C inX11_yearGoes_X11 hK hP 0 rfl rfl 44 (by decide) rfl LX11_yearGoes_101 rfl dX11_yearGoes_90 ?_
      refine lv_iload_n hx hb dX11_yearGoes_93 rfl (lv_at hl 1 rfl) ?_
      refine lv_iconst (v := 0) hx hb dX11_yearGoes_94 (by decide) ?_
      obtain ⟨g7, hB⟩ := guard_inv hB
      obtain ⟨s8, hs9, hB⟩ := letS_inv hB
      refine q_iast (f2 := (upd (s.f 44) (Int32.toNatClampNeg x1) 0)) (w2 := (mwS cB cI cJ cZ h a s8)) C hK hP hD hS 28 1 rfl rfl (vpb_in g7) dX11_yearGoes_95 rfl (mwS_f44 hs9) (fun H locs hP hD hS => ?_)
      refine lv_aload_n hx hb dX11_yearGoes_96 rfl (lv_at hl 0 rfl) ?_
      refine q_get (v := .ref (a 44)) C inX11_yearGoes_X11 hK hP 0 rfl rfl 44 (by decide) rfl LX11_yearGoes_101 rfl dX11_yearGoes_97 ?_
      refine lv_iconst (v := 5) hx hb dX11_yearGoes_100 (by decide) ?_
      refine lv_iload_n hx hb dX11_yearGoes_101 rfl (lv_at hl 1 rfl) ?_
      refine lv_iadd hx hb dX11_yearGoes_102 ?_
      refine lv_bipush (v := (-2)) hx hb dX11_yearGoes_103 (by decide) ?_
      obtain ⟨g10, hB⟩ := guard_inv hB
      obtain ⟨s11, hs12, hB⟩ := letS_inv hB
      refine q_iast (f2 := (upd (s8.f 44) (Int32.toNatClampNeg (5 + x1)) (-2))) (w2 := (mwS cB cI cJ cZ h a s11)) C hK hP hD hS 28 1 rfl rfl (vpb_in g10) dX11_yearGoes_105 rfl (mwS_f44 hs12) (fun H locs hP hD hS => ?_)
      refine lv_aload_n hx hb dX11_yearGoes_106 rfl (lv_at hl 0 rfl) ?_
      refine q_get (v := .ref (a 44)) C inX11_yearGoes_X11 hK hP 0 rfl rfl 44 (by decide) rfl LX11_yearGoes_101 rfl dX11_yearGoes_107 ?_
      refine lv_bipush (v := 10) hx hb dX11_yearGoes_110 (by decide) ?_
      refine lv_iload_n hx hb dX11_yearGoes_112 rfl (lv_at hl 1 rfl) ?_
      refine lv_iadd hx hb dX11_yearGoes_113 ?_
      refine lv_dup2_11 hx hb dX11_yearGoes_114 rfl rfl ?_
      obtain ⟨g13, hB⟩ := guard_inv hB
      refine q_iald (x := (s11.f 44 (Int32.toNatClampNeg (10 + x1)))) C hK hP 28 1 rfl rfl (vpb_in g13) dX11_yearGoes_115 rfl ?_
      refine lv_iconst (v := 1) hx hb dX11_yearGoes_116 (by decide) ?_
      refine lv_iadd hx hb dX11_yearGoes_117 ?_
      obtain ⟨g14, hB⟩ := guard_inv hB
      obtain ⟨s15, hs16, hB⟩ := letS_inv hB
      refine q_iast (f2 := (upd (s11.f 44) (Int32.toNatClampNeg (10 + x1)) ((s11.f 44 (Int32.toNatClampNeg (10 + x1))) + 1))) (w2 := (mwS cB cI cJ cZ h a s15)) C hK hP hD hS 28 1 rfl rfl (vpb_in g14) dX11_yearGoes_118 rfl (mwS_f44 hs16) (fun H locs hP hD hS => ?_)
      exact br_yearGoes_119 (hk64) _ _ hB p e s0 m below meth c A E H locs ls hP hD hS (lv_sub hl [0, 1] rfl)
    · have hB := if_p hB c6
      refine lv_goto (tgt := 119) hx hb dX11_yearGoes_86 (by decide) ?_
      exact br_yearGoes_119 (hk64) _ _ hB p e s0 m below meth c A E H locs ls hP hD hS (lv_sub hl [0, 1] rfl)
theorem br_yearGoes_64L {l : Launch} {dC : Nat → ClassId} {dI : Nat → Nat → Nat} {cB cI cJ cZ cS : ClassId} {h : Nat} {a : Nat → Nat} {as : List Value} {s' : RS} : ∀ (n : Nat) (s : RS) (x1 : Int32), r_yearGoes_64L n s x1 = some s' → BlkV l yX11_yearGoes wsX11_yearGoes ({ frames := 4, cells := 0, slots := 0, locals := 87 }) cX11_yearGoes 2 none (dC, dI) (tysA cB cI cJ cZ cS) as 64 (mwS cB cI cJ cZ h a s) [(0, .ref h), (1, .int x1)] [] (fun u => u = (mwS cB cI cJ cZ h a s')) := by
  intro n
  induction n with
  | zero => intro s x1 hB; exact none_ne hB
  | succ n ih => intro s x1 hB; exact br_yearGoes_64 ih _ _ hB
set_option maxHeartbeats 4000000 in
set_option maxRecDepth 100000 in
theorem br_yearGoes_55 {l : Launch} {dC : Nat → ClassId} {dI : Nat → Nat → Nat} {cB cI cJ cZ cS : ClassId} {h : Nat} {a : Nat → Nat} {as : List Value} {s' : RS} {k2 : RS → Int32 → Option RS} (hk2 : ∀ (s : RS) (x1 : Int32), k2 s x1 = some s' → BlkV l yX11_yearGoes wsX11_yearGoes ({ frames := 4, cells := 0, slots := 0, locals := 87 }) cX11_yearGoes 2 none (dC, dI) (tysA cB cI cJ cZ cS) as 2 (mwS cB cI cJ cZ h a s) [(0, .ref h), (1, .int x1)] [] (fun u => u = (mwS cB cI cJ cZ h a s'))) (s : RS) (x1 : Int32) (t0 : Int32) (t1 : Int32) (hB : r_yearGoes_55 k2 s x1 t0 t1 = some s') : BlkV l yX11_yearGoes wsX11_yearGoes ({ frames := 4, cells := 0, slots := 0, locals := 87 }) cX11_yearGoes 2 none (dC, dI) (tysA cB cI cJ cZ cS) as 55 (mwS cB cI cJ cZ h a s) [(0, .ref h), (1, .int x1)] [.int t0, .int t1, .ref (a 47)] (fun u => u = (mwS cB cI cJ cZ h a s')) := by
  intro p e s0 m below meth c A E H locs ls hP hD hS hl
  obtain ⟨C, hr, hlocks, hA, hK, hN⟩ := id E
  obtain ⟨hx, hb, hml, hown, hts⟩ := id C
  unfold r_yearGoes_55 at hB
  obtain ⟨g1, hB⟩ := guard_inv hB
  obtain ⟨s2, hs3, hB⟩ := letS_inv hB
  refine q_zast (f2 := (upd (s.f 47) (Int32.toNatClampNeg t1) (vp_nar .boolean t0))) (w2 := (mwS cB cI cJ cZ h a s2)) C hK hP hD hS 30 3 rfl rfl (vpb_in g1) dX11_yearGoes_55 rfl (mwS_f47 hs3) (fun H locs hP hD hS => ?_)
  refine lv_iinc (v := (x1 + 1)) (lv' := [(1, .int (x1 + 1)), (0, .ref h)]) hx hb dX11_yearGoes_56 hl (k := 1) rfl (rfl) (by decide) rfl (fun ls hl => ?_)
  refine lv_goto (tgt := 2) hx hb dX11_yearGoes_59 (by decide) ?_
  exact hk2 _ _ hB p e s0 m below meth c A E H locs ls hP hD hS (lv_sub hl [1, 0] rfl)
set_option maxHeartbeats 4000000 in
set_option maxRecDepth 100000 in
theorem br_yearGoes_2 {l : Launch} {dC : Nat → ClassId} {dI : Nat → Nat → Nat} {cB cI cJ cZ cS : ClassId} {h : Nat} {a : Nat → Nat} {as : List Value} {s' : RS} {k2 : RS → Int32 → Option RS} (hk2 : ∀ (s : RS) (x1 : Int32), k2 s x1 = some s' → BlkV l yX11_yearGoes wsX11_yearGoes ({ frames := 4, cells := 0, slots := 0, locals := 87 }) cX11_yearGoes 2 none (dC, dI) (tysA cB cI cJ cZ cS) as 2 (mwS cB cI cJ cZ h a s) [(0, .ref h), (1, .int x1)] [] (fun u => u = (mwS cB cI cJ cZ h a s'))) (s : RS) (x1 : Int32) (hB : r_yearGoes_2 k2 s x1 = some s') : BlkV l yX11_yearGoes wsX11_yearGoes ({ frames := 4, cells := 0, slots := 0, locals := 87 }) cX11_yearGoes 2 none (dC, dI) (tysA cB cI cJ cZ cS) as 2 (mwS cB cI cJ cZ h a s) [(0, .ref h), (1, .int x1)] [] (fun u => u = (mwS cB cI cJ cZ h a s')) := by
  intro p e s0 m below meth c A E H locs ls hP hD hS hl
  obtain ⟨C, hr, hlocks, hA, hK, hN⟩ := id E
  obtain ⟨hx, hb, hml, hown, hts⟩ := id C
  unfold r_yearGoes_2 at hB
  refine lv_iload_n hx hb dX11_yearGoes_2 rfl (lv_at hl 1 rfl) ?_
  refine lv_aload_n hx hb dX11_yearGoes_3 rfl (lv_at hl 0 rfl) ?_
  refine q_get (v := .ref (a 20)) C inX11_yearGoes_X11 hK hP 0 rfl rfl 20 (by decide) rfl LX11_yearGoes_40 rfl dX11_yearGoes_4 ?_
  refine lv_aload_n hx hb dX11_yearGoes_7 rfl (lv_at hl 0 rfl) ?_
  refine q_get (v := .int (s.v 18)) C inX11_yearGoes_X11 hK hP 0 rfl rfl 18 (by decide) rfl LX11_yearGoes_215 rfl dX11_yearGoes_8 ?_
  obtain ⟨g1, hB⟩ := guard_inv hB
  refine q_iald (x := (s.f 20 (Int32.toNatClampNeg (s.v 18)))) C hK hP 8 1 rfl rfl (vpb_in g1) dX11_yearGoes_11 rfl ?_
  refine lv_icmp_ge (tgt := 62) hx hb dX11_yearGoes_12 (by decide) (fun c2 => ?_) (fun c2 => ?_)
  · have hB := if_p hB c2
    refine lv_iconst (v := 0) hx hb dX11_yearGoes_62 (by decide) ?_
    refine lv_istore_n (lv' := [(1, .int 0), (0, .ref h)]) hx hb dX11_yearGoes_63 rfl hl (by decide) rfl (fun ls hl => ?_)
    exact br_yearGoes_64L fu _ _ hB p e s0 m below meth c A E H locs ls hP hD hS (lv_sub hl [1, 0] rfl)
  · have hB := if_n hB c2
    refine lv_aload_n hx hb dX11_yearGoes_15 rfl (lv_at hl 0 rfl) ?_
    refine q_get (v := .ref (a 47)) C inX11_yearGoes_X11 hK hP 0 rfl rfl 47 (by decide) rfl LX11_yearGoes_107 rfl dX11_yearGoes_16 ?_
    refine lv_iload_n hx hb dX11_yearGoes_19 rfl (lv_at hl 1 rfl) ?_
    refine lv_aload_n hx hb dX11_yearGoes_20 rfl (lv_at hl 0 rfl) ?_
    refine lv_bipush (v := 8) hx hb dX11_yearGoes_21 (by decide) ?_
    refine lv_aload_n hx hb dX11_yearGoes_23 rfl (lv_at hl 0 rfl) ?_
    refine q_get (v := .ref (a 44)) C inX11_yearGoes_X11 hK hP 0 rfl rfl 44 (by decide) rfl LX11_yearGoes_101 rfl dX11_yearGoes_24 ?_
    refine lv_bipush (v := 27) hx hb dX11_yearGoes_27 (by decide) ?_
    refine q_iald (x := (s.f 44 27)) C hK hP 28 1 rfl rfl (vp_lit (by decide +kernel)) dX11_yearGoes_29 rfl ?_
    refine lv_imul hx hb dX11_yearGoes_30 ?_
    refine lv_ldcw (v := 1000000) hx hb hown (hts _ LX11_yearGoes_K342) dX11_yearGoes_31 ?_
    refine lv_iadd hx hb dX11_yearGoes_34 ?_
    refine lv_iload_n hx hb dX11_yearGoes_35 rfl (lv_at hl 1 rfl) ?_
    refine lv_iadd hx hb dX11_yearGoes_36 ?_
    refine lv_bipush (v := 100) hx hb dX11_yearGoes_37 (by decide) ?_
    obtain ⟨q_, s3, hc, hB⟩ := bindI_inv hB
    refine q_goiF (va_runV (As := [.int (((8 * (s.f 44 27)) + 1000000) + x1), .int 100]) (rest := [.int x1, .ref (a 47)]) C (cr_lotOf hc _) (cwV 2 hts gX11_yearGoes_X11_lotOf rfl rfl rfl (by decide +kernel) ⟨Nat.le_of_ble_eq_true rfl, Nat.le_of_ble_eq_true rfl⟩) (q_preV hK hP (ci := 11) (q0 := 0) rfl rfl rfl (q_preF hN hK hP hD)) rfl rfl hl.1 rfl (lv_room (Nat.le_of_ble_eq_true rfl)) dX11_yearGoes_39 ⟨Nat.le_of_ble_eq_true rfl, Nat.le_of_ble_eq_true rfl⟩) hD hS hA (fun r4 w1 H locs hw hP hD hS => ?_)
    obtain ⟨hq_, hw⟩ := hw; subst hw; subst hq_
    refine lv_aload_n hx hb dX11_yearGoes_42 rfl (lv_at hl 0 rfl) ?_
    refine lv_iload_n hx hb dX11_yearGoes_43 rfl (lv_at hl 1 rfl) ?_
    obtain ⟨q_, s5, hc, hB⟩ := bindI_inv hB
    refine q_goiF (va_runV (As := [.int x1]) (rest := [.int r4, .int x1, .ref (a 47)]) C (cr_shiftsOf hc _) (cwV 1 hts gX11_yearGoes_X11_shiftsOf rfl rfl rfl (by decide +kernel) ⟨Nat.le_of_ble_eq_true rfl, Nat.le_of_ble_eq_true rfl⟩) (q_preV hK hP (ci := 11) (q0 := 0) rfl rfl rfl (q_preF hN hK hP hD)) rfl rfl hl.1 rfl (lv_room (Nat.le_of_ble_eq_true rfl)) dX11_yearGoes_44 ⟨Nat.le_of_ble_eq_true rfl, Nat.le_of_ble_eq_true rfl⟩) hD hS hA (fun r6 w1 H locs hw hP hD hS => ?_)
    obtain ⟨hq_, hw⟩ := hw; subst hw; subst hq_
    refine lv_icmp_ge (tgt := 54) hx hb dX11_yearGoes_47 (by decide) (fun c7 => ?_) (fun c7 => ?_)
    · have hB := if_p hB c7
      refine lv_iconst (v := 0) hx hb dX11_yearGoes_54 (by decide) ?_
      exact br_yearGoes_55 (hk2) _ _ _ _ hB p e s0 m below meth c A E H locs ls hP hD hS (lv_sub hl [0, 1] rfl)
    · have hB := if_n hB c7
      refine lv_iconst (v := 1) hx hb dX11_yearGoes_50 (by decide) ?_
      refine lv_goto (tgt := 55) hx hb dX11_yearGoes_51 (by decide) ?_
      exact br_yearGoes_55 (hk2) _ _ _ _ hB p e s0 m below meth c A E H locs ls hP hD hS (lv_sub hl [0, 1] rfl)
theorem br_yearGoes_2L {l : Launch} {dC : Nat → ClassId} {dI : Nat → Nat → Nat} {cB cI cJ cZ cS : ClassId} {h : Nat} {a : Nat → Nat} {as : List Value} {s' : RS} : ∀ (n : Nat) (s : RS) (x1 : Int32), r_yearGoes_2L n s x1 = some s' → BlkV l yX11_yearGoes wsX11_yearGoes ({ frames := 4, cells := 0, slots := 0, locals := 87 }) cX11_yearGoes 2 none (dC, dI) (tysA cB cI cJ cZ cS) as 2 (mwS cB cI cJ cZ h a s) [(0, .ref h), (1, .int x1)] [] (fun u => u = (mwS cB cI cJ cZ h a s')) := by
  intro n
  induction n with
  | zero => intro s x1 hB; exact none_ne hB
  | succ n ih => intro s x1 hB; exact br_yearGoes_2 ih _ _ hB
set_option maxHeartbeats 4000000 in
set_option maxRecDepth 100000 in
theorem br_yearGoes {l : Launch} {dC : Nat → ClassId} {dI : Nat → Nat → Nat} {cB cI cJ cZ cS : ClassId} {h : Nat} {a : Nat → Nat} {as : List Value} {s' : RS} (s : RS) (hB : r_yearGoes s = some s') : BlkV l yX11_yearGoes wsX11_yearGoes ({ frames := 4, cells := 0, slots := 0, locals := 87 }) cX11_yearGoes 2 none (dC, dI) (tysA cB cI cJ cZ cS) as 0 (mwS cB cI cJ cZ h a s) [(0, .ref h)] [] (fun u => u = (mwS cB cI cJ cZ h a s')) := by
  intro p e s0 m below meth c A E H locs ls hP hD hS hl
  obtain ⟨C, hr, hlocks, hA, hK, hN⟩ := id E
  obtain ⟨hx, hb, hml, hown, hts⟩ := id C
  unfold r_yearGoes at hB
  refine lv_iconst (v := 0) hx hb dX11_yearGoes_0 (by decide) ?_
  refine lv_istore_n (lv' := [(1, .int 0), (0, .ref h)]) hx hb dX11_yearGoes_1 rfl hl (by decide) rfl (fun ls hl => ?_)
  exact br_yearGoes_2L fu _ _ hB p e s0 m below meth c A E H locs ls hP hD hS (lv_sub hl [1, 0] rfl)
theorem cr_yearGoes {l : Launch} {dC : Nat → ClassId} {dI : Nat → Nat → Nat} {cB cI cJ cZ cS : ClassId} {h : Nat} {a : Nat → Nat} {s' : RS} {s : RS} (hB : r_yearGoes s = some s') : CV l yX11_yearGoes wsX11_yearGoes ({ frames := 4, cells := 0, slots := 0, locals := 87 }) (dC, dI) (tysA cB cI cJ cZ cS) (mwS cB cI cJ cZ h a s) [.ref h] (fun u => u = (mwS cB cI cJ cZ h a s')) :=
  CV_of (cc := cX11_yearGoes) (maxL := 2) (ret := none) (by decide) rfl (Nat.le_of_ble_eq_true rfl) (br_yearGoes _ hB)
